section
-- ===== PART A: goes FIRST, ahead of the names: the tables' words, and 'selects' of the private methods out of them =====
/-- a private method of a class that the tables say can be made, by its rows of tables_1 -/
def lw_okq (q : MethodName × Nat) : Prop := (q.1.cls ≠ "java/lang/invoke/MethodHandle" ∧ q.1.cls ≠ "java/lang/invoke/VarHandle") ∧ Cond.instantiable q.1.cls q.2 ∈ tables_1 ∧ Cond.privateMethod q.1 ∈ tables_1 ∧ Cond.instanceMethod q.1 ∈ tables_1
theorem lw_p0 : lw_okq (⟨"TeaRace", "found", "(I)I"⟩, 12) := ⟨⟨by decide +kernel, by decide +kernel⟩, List.mem_of_getElem? (i := 18) (by decide +kernel), List.mem_of_getElem? (i := 158) (by decide +kernel), List.mem_of_getElem? (i := 159) (by decide +kernel)⟩
theorem lw_p1 : lw_okq (⟨"TeaRace", "isNoWater", "(I)Z"⟩, 12) := ⟨⟨by decide +kernel, by decide +kernel⟩, List.mem_of_getElem? (i := 18) (by decide +kernel), List.mem_of_getElem? (i := 205) (by decide +kernel), List.mem_of_getElem? (i := 206) (by decide +kernel)⟩
theorem lw_p2 : lw_okq (⟨"java/util/ArrayList", "add", "(Ljava/lang/Object;[Ljava/lang/Object;I)V"⟩, 3) := ⟨⟨by decide +kernel, by decide +kernel⟩, List.mem_of_getElem? (i := 60) (by decide +kernel), List.mem_of_getElem? (i := 293) (by decide +kernel), List.mem_of_getElem? (i := 294) (by decide +kernel)⟩
theorem lw_p3 : lw_okq (⟨"java/util/ArrayList", "grow", "()[Ljava/lang/Object;"⟩, 3) := ⟨⟨by decide +kernel, by decide +kernel⟩, List.mem_of_getElem? (i := 60) (by decide +kernel), List.mem_of_getElem? (i := 297) (by decide +kernel), List.mem_of_getElem? (i := 298) (by decide +kernel)⟩
theorem lw_p4 : lw_okq (⟨"java/util/ArrayList", "grow", "(I)[Ljava/lang/Object;"⟩, 3) := ⟨⟨by decide +kernel, by decide +kernel⟩, List.mem_of_getElem? (i := 60) (by decide +kernel), List.mem_of_getElem? (i := 301) (by decide +kernel), List.mem_of_getElem? (i := 302) (by decide +kernel)⟩
theorem lw_p5 : lw_okq (⟨"TeaRace", "shipOf", "(I)LTeaRace$Ship;"⟩, 12) := ⟨⟨by decide +kernel, by decide +kernel⟩, List.mem_of_getElem? (i := 18) (by decide +kernel), List.mem_of_getElem? (i := 346) (by decide +kernel), List.mem_of_getElem? (i := 347) (by decide +kernel)⟩
theorem lw_p6 : lw_okq (⟨"TeaRace$Ship", "sailSpeed", "(II)I"⟩, 14) := ⟨⟨by decide +kernel, by decide +kernel⟩, List.mem_of_getElem? (i := 219) (by decide +kernel), List.mem_of_getElem? (i := 393) (by decide +kernel), List.mem_of_getElem? (i := 394) (by decide +kernel)⟩
theorem lw_p7 : lw_okq (⟨"TeaRace$Ship", "moreAcrossTheWind", "()I"⟩, 14) := ⟨⟨by decide +kernel, by decide +kernel⟩, List.mem_of_getElem? (i := 219) (by decide +kernel), List.mem_of_getElem? (i := 397) (by decide +kernel), List.mem_of_getElem? (i := 398) (by decide +kernel)⟩
theorem lw_p8 : lw_okq (⟨"TeaRace", "shipsHome", "()I"⟩, 12) := ⟨⟨by decide +kernel, by decide +kernel⟩, List.mem_of_getElem? (i := 18) (by decide +kernel), List.mem_of_getElem? (i := 448) (by decide +kernel), List.mem_of_getElem? (i := 449) (by decide +kernel)⟩
theorem lw_p9 : lw_okq (⟨"TeaRace", "sail", "(LTeaRace$Ship;I)V"⟩, 12) := ⟨⟨by decide +kernel, by decide +kernel⟩, List.mem_of_getElem? (i := 18) (by decide +kernel), List.mem_of_getElem? (i := 456) (by decide +kernel), List.mem_of_getElem? (i := 457) (by decide +kernel)⟩
theorem lw_p10 : lw_okq (⟨"TeaRace", "moveOn", "(LTeaRace$Ship;I)V"⟩, 12) := ⟨⟨by decide +kernel, by decide +kernel⟩, List.mem_of_getElem? (i := 18) (by decide +kernel), List.mem_of_getElem? (i := 482) (by decide +kernel), List.mem_of_getElem? (i := 483) (by decide +kernel)⟩
theorem lw_p11 : lw_okq (⟨"TeaRace", "comeTo", "(LTeaRace$Ship;II)V"⟩, 12) := ⟨⟨by decide +kernel, by decide +kernel⟩, List.mem_of_getElem? (i := 18) (by decide +kernel), List.mem_of_getElem? (i := 495) (by decide +kernel), List.mem_of_getElem? (i := 496) (by decide +kernel)⟩
theorem lw_p12 : lw_okq (⟨"TeaRace", "entryFrom", "(I)I"⟩, 12) := ⟨⟨by decide +kernel, by decide +kernel⟩, List.mem_of_getElem? (i := 18) (by decide +kernel), List.mem_of_getElem? (i := 499) (by decide +kernel), List.mem_of_getElem? (i := 500) (by decide +kernel)⟩
theorem lw_p13 : lw_okq (⟨"TeaRace", "theFirst", "()LTeaRace$Ship;"⟩, 12) := ⟨⟨by decide +kernel, by decide +kernel⟩, List.mem_of_getElem? (i := 18) (by decide +kernel), List.mem_of_getElem? (i := 507) (by decide +kernel), List.mem_of_getElem? (i := 508) (by decide +kernel)⟩
theorem lw_p14 : lw_okq (⟨"TeaRace$Passage", "earliestCell", "()I"⟩, 2) := ⟨⟨by decide +kernel, by decide +kernel⟩, List.mem_of_getElem? (i := 46) (by decide +kernel), List.mem_of_getElem? (i := 525) (by decide +kernel), List.mem_of_getElem? (i := 526) (by decide +kernel)⟩
theorem lw_p15 : lw_okq (⟨"TeaRace$Passage", "leave", "(LTeaRace$Sea;LTeaRace$Ship;II)V"⟩, 2) := ⟨⟨by decide +kernel, by decide +kernel⟩, List.mem_of_getElem? (i := 46) (by decide +kernel), List.mem_of_getElem? (i := 529) (by decide +kernel), List.mem_of_getElem? (i := 530) (by decide +kernel)⟩
def lw_privs_1 : List (MethodName × Nat) := [(⟨"TeaRace", "found", "(I)I"⟩, 12), (⟨"TeaRace", "isNoWater", "(I)Z"⟩, 12), (⟨"java/util/ArrayList", "add", "(Ljava/lang/Object;[Ljava/lang/Object;I)V"⟩, 3), (⟨"java/util/ArrayList", "grow", "()[Ljava/lang/Object;"⟩, 3), (⟨"java/util/ArrayList", "grow", "(I)[Ljava/lang/Object;"⟩, 3), (⟨"TeaRace", "shipOf", "(I)LTeaRace$Ship;"⟩, 12), (⟨"TeaRace$Ship", "sailSpeed", "(II)I"⟩, 14), (⟨"TeaRace$Ship", "moreAcrossTheWind", "()I"⟩, 14), (⟨"TeaRace", "shipsHome", "()I"⟩, 12), (⟨"TeaRace", "sail", "(LTeaRace$Ship;I)V"⟩, 12), (⟨"TeaRace", "moveOn", "(LTeaRace$Ship;I)V"⟩, 12), (⟨"TeaRace", "comeTo", "(LTeaRace$Ship;II)V"⟩, 12), (⟨"TeaRace", "entryFrom", "(I)I"⟩, 12), (⟨"TeaRace", "theFirst", "()LTeaRace$Ship;"⟩, 12), (⟨"TeaRace$Passage", "earliestCell", "()I"⟩, 2), (⟨"TeaRace$Passage", "leave", "(LTeaRace$Sea;LTeaRace$Ship;II)V"⟩, 2)]
theorem lw_r1 : ∀ q ∈ lw_privs_1, lw_okq q := List.forall_mem_cons.mpr ⟨lw_p0, List.forall_mem_cons.mpr ⟨lw_p1, List.forall_mem_cons.mpr ⟨lw_p2, List.forall_mem_cons.mpr ⟨lw_p3, List.forall_mem_cons.mpr ⟨lw_p4, List.forall_mem_cons.mpr ⟨lw_p5, List.forall_mem_cons.mpr ⟨lw_p6, List.forall_mem_cons.mpr ⟨lw_p7, List.forall_mem_cons.mpr ⟨lw_p8, List.forall_mem_cons.mpr ⟨lw_p9, List.forall_mem_cons.mpr ⟨lw_p10, List.forall_mem_cons.mpr ⟨lw_p11, List.forall_mem_cons.mpr ⟨lw_p12, List.forall_mem_cons.mpr ⟨lw_p13, List.forall_mem_cons.mpr ⟨lw_p14, List.forall_mem_cons.mpr ⟨lw_p15, fun _ h => absurd h List.not_mem_nil⟩⟩⟩⟩⟩⟩⟩⟩⟩⟩⟩⟩⟩⟩⟩⟩
theorem lw_p16 : lw_okq (⟨"TeaRace$Passage", "reach", "(II)V"⟩, 2) := ⟨⟨by decide +kernel, by decide +kernel⟩, List.mem_of_getElem? (i := 46) (by decide +kernel), List.mem_of_getElem? (i := 545) (by decide +kernel), List.mem_of_getElem? (i := 546) (by decide +kernel)⟩
theorem lw_p17 : lw_okq (⟨"TeaRace", "mostDistance", "(LTeaRace$Ship;I)I"⟩, 12) := ⟨⟨by decide +kernel, by decide +kernel⟩, List.mem_of_getElem? (i := 18) (by decide +kernel), List.mem_of_getElem? (i := 582) (by decide +kernel), List.mem_of_getElem? (i := 583) (by decide +kernel)⟩
theorem lw_p18 : lw_okq (⟨"TeaRace", "distanceFromHome", "(I)I"⟩, 12) := ⟨⟨by decide +kernel, by decide +kernel⟩, List.mem_of_getElem? (i := 18) (by decide +kernel), List.mem_of_getElem? (i := 591) (by decide +kernel), List.mem_of_getElem? (i := 592) (by decide +kernel)⟩
theorem lw_p19 : lw_okq (⟨"TeaRace", "leastDistance", "(LTeaRace$Ship;I)I"⟩, 12) := ⟨⟨by decide +kernel, by decide +kernel⟩, List.mem_of_getElem? (i := 18) (by decide +kernel), List.mem_of_getElem? (i := 596) (by decide +kernel), List.mem_of_getElem? (i := 597) (by decide +kernel)⟩
theorem lw_p20 : lw_okq (⟨"TeaRace", "takings", "(LTeaRace$Ship;)J"⟩, 12) := ⟨⟨by decide +kernel, by decide +kernel⟩, List.mem_of_getElem? (i := 18) (by decide +kernel), List.mem_of_getElem? (i := 625) (by decide +kernel), List.mem_of_getElem? (i := 626) (by decide +kernel)⟩
theorem lw_p21 : lw_okq (⟨"TeaRace", "priceAtEntry", "(LTeaRace$Ship;)I"⟩, 12) := ⟨⟨by decide +kernel, by decide +kernel⟩, List.mem_of_getElem? (i := 18) (by decide +kernel), List.mem_of_getElem? (i := 629) (by decide +kernel), List.mem_of_getElem? (i := 630) (by decide +kernel)⟩
theorem lw_p22 : lw_okq (⟨"TeaRaceModel", "looked", "(I)I"⟩, 31) := ⟨⟨by decide +kernel, by decide +kernel⟩, List.mem_of_getElem? (i := 675) (by decide +kernel), List.mem_of_getElem? (i := 796) (by decide +kernel), List.mem_of_getElem? (i := 797) (by decide +kernel)⟩
theorem lw_p23 : lw_okq (⟨"TeaRaceModel", "meets", "(I)I"⟩, 31) := ⟨⟨by decide +kernel, by decide +kernel⟩, List.mem_of_getElem? (i := 675) (by decide +kernel), List.mem_of_getElem? (i := 800) (by decide +kernel), List.mem_of_getElem? (i := 801) (by decide +kernel)⟩
theorem lw_p24 : lw_okq (⟨"TeaRaceModel", "isShip", "(I)Z"⟩, 31) := ⟨⟨by decide +kernel, by decide +kernel⟩, List.mem_of_getElem? (i := 675) (by decide +kernel), List.mem_of_getElem? (i := 828) (by decide +kernel), List.mem_of_getElem? (i := 829) (by decide +kernel)⟩
theorem lw_p25 : lw_okq (⟨"TeaRaceModel", "tells", "(II)I"⟩, 31) := ⟨⟨by decide +kernel, by decide +kernel⟩, List.mem_of_getElem? (i := 675) (by decide +kernel), List.mem_of_getElem? (i := 836) (by decide +kernel), List.mem_of_getElem? (i := 837) (by decide +kernel)⟩
theorem lw_p26 : lw_okq (⟨"TeaRaceModel", "entryOf", "(I)I"⟩, 31) := ⟨⟨by decide +kernel, by decide +kernel⟩, List.mem_of_getElem? (i := 675) (by decide +kernel), List.mem_of_getElem? (i := 840) (by decide +kernel), List.mem_of_getElem? (i := 841) (by decide +kernel)⟩
theorem lw_p27 : lw_okq (⟨"TeaRaceModel", "speedOf", "(IIII)I"⟩, 31) := ⟨⟨by decide +kernel, by decide +kernel⟩, List.mem_of_getElem? (i := 675) (by decide +kernel), List.mem_of_getElem? (i := 848) (by decide +kernel), List.mem_of_getElem? (i := 849) (by decide +kernel)⟩
theorem lw_p28 : lw_okq (⟨"TeaRaceModel", "atHome", "()I"⟩, 31) := ⟨⟨by decide +kernel, by decide +kernel⟩, List.mem_of_getElem? (i := 675) (by decide +kernel), List.mem_of_getElem? (i := 872) (by decide +kernel), List.mem_of_getElem? (i := 873) (by decide +kernel)⟩
theorem lw_p29 : lw_okq (⟨"TeaRaceModel", "go", "(I)V"⟩, 31) := ⟨⟨by decide +kernel, by decide +kernel⟩, List.mem_of_getElem? (i := 675) (by decide +kernel), List.mem_of_getElem? (i := 876) (by decide +kernel), List.mem_of_getElem? (i := 877) (by decide +kernel)⟩
theorem lw_p30 : lw_okq (⟨"TeaRaceModel", "ask", "(I)V"⟩, 31) := ⟨⟨by decide +kernel, by decide +kernel⟩, List.mem_of_getElem? (i := 675) (by decide +kernel), List.mem_of_getElem? (i := 880) (by decide +kernel), List.mem_of_getElem? (i := 881) (by decide +kernel)⟩
theorem lw_p31 : lw_okq (⟨"TeaRaceModel", "windAt", "(II)I"⟩, 31) := ⟨⟨by decide +kernel, by decide +kernel⟩, List.mem_of_getElem? (i := 675) (by decide +kernel), List.mem_of_getElem? (i := 884) (by decide +kernel), List.mem_of_getElem? (i := 885) (by decide +kernel)⟩
def lw_privs_2 : List (MethodName × Nat) := [(⟨"TeaRace$Passage", "reach", "(II)V"⟩, 2), (⟨"TeaRace", "mostDistance", "(LTeaRace$Ship;I)I"⟩, 12), (⟨"TeaRace", "distanceFromHome", "(I)I"⟩, 12), (⟨"TeaRace", "leastDistance", "(LTeaRace$Ship;I)I"⟩, 12), (⟨"TeaRace", "takings", "(LTeaRace$Ship;)J"⟩, 12), (⟨"TeaRace", "priceAtEntry", "(LTeaRace$Ship;)I"⟩, 12), (⟨"TeaRaceModel", "looked", "(I)I"⟩, 31), (⟨"TeaRaceModel", "meets", "(I)I"⟩, 31), (⟨"TeaRaceModel", "isShip", "(I)Z"⟩, 31), (⟨"TeaRaceModel", "tells", "(II)I"⟩, 31), (⟨"TeaRaceModel", "entryOf", "(I)I"⟩, 31), (⟨"TeaRaceModel", "speedOf", "(IIII)I"⟩, 31), (⟨"TeaRaceModel", "atHome", "()I"⟩, 31), (⟨"TeaRaceModel", "go", "(I)V"⟩, 31), (⟨"TeaRaceModel", "ask", "(I)V"⟩, 31), (⟨"TeaRaceModel", "windAt", "(II)I"⟩, 31)]
theorem lw_r2 : ∀ q ∈ lw_privs_2, lw_okq q := List.forall_mem_cons.mpr ⟨lw_p16, List.forall_mem_cons.mpr ⟨lw_p17, List.forall_mem_cons.mpr ⟨lw_p18, List.forall_mem_cons.mpr ⟨lw_p19, List.forall_mem_cons.mpr ⟨lw_p20, List.forall_mem_cons.mpr ⟨lw_p21, List.forall_mem_cons.mpr ⟨lw_p22, List.forall_mem_cons.mpr ⟨lw_p23, List.forall_mem_cons.mpr ⟨lw_p24, List.forall_mem_cons.mpr ⟨lw_p25, List.forall_mem_cons.mpr ⟨lw_p26, List.forall_mem_cons.mpr ⟨lw_p27, List.forall_mem_cons.mpr ⟨lw_p28, List.forall_mem_cons.mpr ⟨lw_p29, List.forall_mem_cons.mpr ⟨lw_p30, List.forall_mem_cons.mpr ⟨lw_p31, fun _ h => absurd h List.not_mem_nil⟩⟩⟩⟩⟩⟩⟩⟩⟩⟩⟩⟩⟩⟩⟩⟩
theorem lw_p32 : lw_okq (⟨"TeaRaceModel", "nextCell", "(II)I"⟩, 31) := ⟨⟨by decide +kernel, by decide +kernel⟩, List.mem_of_getElem? (i := 675) (by decide +kernel), List.mem_of_getElem? (i := 891) (by decide +kernel), List.mem_of_getElem? (i := 892) (by decide +kernel)⟩
theorem lw_p33 : lw_okq (⟨"TeaRaceModel", "firstShip", "()I"⟩, 31) := ⟨⟨by decide +kernel, by decide +kernel⟩, List.mem_of_getElem? (i := 675) (by decide +kernel), List.mem_of_getElem? (i := 899) (by decide +kernel), List.mem_of_getElem? (i := 900) (by decide +kernel)⟩
theorem lw_p34 : lw_okq (⟨"TeaRaceModel", "crossing", "(IIIII)I"⟩, 31) := ⟨⟨by decide +kernel, by decide +kernel⟩, List.mem_of_getElem? (i := 675) (by decide +kernel), List.mem_of_getElem? (i := 908) (by decide +kernel), List.mem_of_getElem? (i := 909) (by decide +kernel)⟩
theorem lw_p35 : lw_okq (⟨"TeaRaceModel", "distanceOf", "(IIZ)I"⟩, 31) := ⟨⟨by decide +kernel, by decide +kernel⟩, List.mem_of_getElem? (i := 675) (by decide +kernel), List.mem_of_getElem? (i := 920) (by decide +kernel), List.mem_of_getElem? (i := 921) (by decide +kernel)⟩
theorem lw_p36 : lw_okq (⟨"TeaRaceModel", "farOf", "(I)I"⟩, 31) := ⟨⟨by decide +kernel, by decide +kernel⟩, List.mem_of_getElem? (i := 675) (by decide +kernel), List.mem_of_getElem? (i := 924) (by decide +kernel), List.mem_of_getElem? (i := 925) (by decide +kernel)⟩
theorem lw_p37 : lw_okq (⟨"TeaRaceModel", "priceFor", "(I)I"⟩, 31) := ⟨⟨by decide +kernel, by decide +kernel⟩, List.mem_of_getElem? (i := 675) (by decide +kernel), List.mem_of_getElem? (i := 951) (by decide +kernel), List.mem_of_getElem? (i := 952) (by decide +kernel)⟩
theorem lw_p38 : lw_okq (⟨"TeaRaceModel", "tellsCount", "(I)I"⟩, 31) := ⟨⟨by decide +kernel, by decide +kernel⟩, List.mem_of_getElem? (i := 675) (by decide +kernel), List.mem_of_getElem? (i := 967) (by decide +kernel), List.mem_of_getElem? (i := 968) (by decide +kernel)⟩
def lw_privs_3 : List (MethodName × Nat) := [(⟨"TeaRaceModel", "nextCell", "(II)I"⟩, 31), (⟨"TeaRaceModel", "firstShip", "()I"⟩, 31), (⟨"TeaRaceModel", "crossing", "(IIIII)I"⟩, 31), (⟨"TeaRaceModel", "distanceOf", "(IIZ)I"⟩, 31), (⟨"TeaRaceModel", "farOf", "(I)I"⟩, 31), (⟨"TeaRaceModel", "priceFor", "(I)I"⟩, 31), (⟨"TeaRaceModel", "tellsCount", "(I)I"⟩, 31)]
theorem lw_r3 : ∀ q ∈ lw_privs_3, lw_okq q := List.forall_mem_cons.mpr ⟨lw_p32, List.forall_mem_cons.mpr ⟨lw_p33, List.forall_mem_cons.mpr ⟨lw_p34, List.forall_mem_cons.mpr ⟨lw_p35, List.forall_mem_cons.mpr ⟨lw_p36, List.forall_mem_cons.mpr ⟨lw_p37, List.forall_mem_cons.mpr ⟨lw_p38, fun _ h => absurd h List.not_mem_nil⟩⟩⟩⟩⟩⟩⟩
def lw_privs : List (MethodName × Nat) := lw_privs_1 ++ (lw_privs_2 ++ (lw_privs_3))
def lw_tbl : List Cond := k2_sels lw_privs ++ tables_1
theorem lw_privs_ok : ∀ q ∈ lw_privs, lw_okq q := by
  show ∀ q ∈ lw_privs_1 ++ (lw_privs_2 ++ (lw_privs_3)), lw_okq q
  exact List.forall_mem_append.mpr ⟨lw_r1, List.forall_mem_append.mpr ⟨lw_r2, lw_r3⟩⟩
end
section
def va_AOA (ty : FieldType) (U : State) : Prop := (Cond.arrayOver (.array ty)).before #[] U = true
theorem va_AOA.of {ty : FieldType} {A : Array Value} {U : State} (h : (Cond.arrayOver (.array ty)).before A U = true) : va_AOA ty U := h
theorem va_AOA.use {ty : FieldType} {A : Array Value} {U : State} (h : va_AOA ty U) : (Cond.arrayOver (.array ty)).before A U = true := h
end
section
/-! ===== BEGIN words of one list among another's, by their places ===== -/
theorem goodIn_r {big : List Cond} (ws : List Cond) (ps : List Nat) (hp : ws = ps.filterMap (fun i => big[i]?)) (h : ws.all goodWord = true) : GoodIn big ws := by
  intro w hw
  have h1 := List.all_eq_true.mp h w hw
  rw [hp] at hw
  obtain ⟨i, -, hi⟩ := List.mem_filterMap.mp hw
  have hm : w ∈ big := by first | exact List.mem_of_getElem? hi | exact List.getElem?_mem hi
  exact ⟨hm, good_of_word h1⟩
theorem goodIn_app {big a b : List Cond} (ha : GoodIn big a) (hb : GoodIn big b) : GoodIn big (a ++ b) := fun w h => (List.mem_append.mp h).elim (ha w) (hb w)
theorem goodIn_ca {big a b : List Cond} {c : Cond} (ha : GoodIn big (c :: a)) (hb : GoodIn big b) : GoodIn big (c :: (a ++ b)) := fun w h => (List.mem_cons.mp h).elim (fun e => ha w (List.mem_cons.mpr (Or.inl e))) (fun h => (List.mem_append.mp h).elim (fun h => ha w (List.mem_cons.mpr (Or.inr h))) (hb w))
theorem goodIn_sub {big ws : List Cond} (hm : ∀ w ∈ ws, w ∈ big) (h : ws.all goodWord = true) : GoodIn big ws := fun w hw => ⟨hm w hw, good_of_word (List.all_eq_true.mp h w hw)⟩
/-! ===== END ===== -/

/-! ===== BEGIN new T[n][m]: the outer array a place, the inner ones among the pooled ===== -/
/-- f, but v at every address of l -/
def vr_up {α : Type} (f : Nat → α) (l : List Nat) (v : α) : Nat → α := fun a => if a ∈ l then v else f a
theorem vr_up_in {α : Type} {f : Nat → α} {l : List Nat} {v : α} {a : Nat} (h : a ∈ l) : vr_up f l v a = v := if_pos h
theorem vr_up_ne {α : Type} {f : Nat → α} {l : List Nat} {v : α} {a : Nat} (h : a ∉ l) : vr_up f l v a = f a := if_neg h
theorem vr_rows {L l : List Nat} {f : Nat → va_E} {e : va_E} (h : ∀ a, a ∈ l → a ∉ L) : va_pl L f ++ l.map (fun a => (a, e)) = va_pl (L ++ l) (vr_up f l e) := by
  unfold va_pl
  rw [List.map_append]
  congr 1
  · apply List.map_congr_left
    intro a ha
    rw [vr_up_ne (fun q => h a q ha)]
  · apply List.map_congr_left
    intro a ha
    rw [vr_up_in ha]
theorem vr_lay {X rows : va_W} {x : Nat × va_E} {pl : va_W} {D : va_G} {cl : List vw_C} {H : Heap} (hP : va_P D cl (((X ++ pl) ++ [x]) ++ rows) H) : va_P D cl ((X ++ [x]) ++ (pl ++ rows)) H := by
  rw [List.append_assoc (X ++ pl)] at hP
  have h := va_P.swap hP
  rw [← List.append_assoc X] at h
  have h2 := va_P.swap h
  rw [List.append_assoc (X ++ [x])] at h2
  exact h2
theorem vr_layD {X rows : va_W} {x : Nat × va_E} {pl : va_W} {A : Nat → Prop} (hD : va_D A (((X ++ pl) ++ [x]) ++ rows)) : va_D A ((X ++ [x]) ++ (pl ++ rows)) := by
  rw [List.append_assoc (X ++ pl)] at hD
  have h := va_D.swap hD
  rw [← List.append_assoc X] at h
  have h2 := va_D.swap h
  rw [List.append_assoc (X ++ [x])] at h2
  exact h2
theorem vr_outer (c : ClassId) (N h0 : Nat) : ∀ i : Nat, Jvm.Free.Multi.outerC c N h0 i = arrV c N (fun j => va_rf (if j < i then some (h0 + 1 + j) else none))
  | 0 => by
    show ({ cls := c, slots := Array.replicate N .null, vm := .none } : Cell) = _
    rw [arrV_new]
    refine congrArg (arrV c N) (funext fun j => ?_)
    simp [va_rf]
  | i + 1 => by
    show (Jvm.Free.Multi.outerC c N h0 i).setSlot i (.ref (h0 + 1 + i)) = _
    rw [vr_outer c N h0 i, arrV_store]
    refine congrArg (arrV c N) (funext fun j => ?_)
    by_cases e : j = i
    · subst e
      simp [updV, va_rf]
    · by_cases h : j < i
      · simp [updV, e, h, Nat.lt_succ_of_lt h]
      · simp [updV, e, h, show ¬ j < i + 1 by omega]
section VGM
variable {p : Program} {l : Launch} {e : Env} {R : Room} {s : State} {m : MethodId} {args : Array Value} {below : List Frame} {meth : Method} {c : Code} {H : Heap} {locs : List Loc} {cells slots : Nat} {Q : State → Prop}
variable {cc : ByteArray} {pc : Nat} {ls : Array Slot} {rest : List Value} {D : va_G} {cl : List vw_C} {A : Nat → Prop} {a : Nat} {tys : List (ClassId × FieldType)} {ws : va_W} {H0 : Heap}
theorem va_mna {X : va_W} {L : List Nat} {f : Nat → va_E} {cc : ByteArray} (hexec : p.tables.exec = Jvm.exec) (hb : c.code = cc) {own : String} {index : Nat} {ty : FieldType} {cy : ClassId} (hown : s.vm.findClass own = some m.cls) (hclink : (Cond.classLink own index ("[" ++ (FieldType.array ty).toString)).before args s = true) (hover : va_AOA ty s) (harr : (Cond.arrayClass ty).before args s = true) (hcy : s.vm.findClass (FieldType.array ty).toString = some cy)
    (hK : va_K D cl tys s) (hP : va_P D cl (X ++ va_pl L f) H) (hD : va_D A (X ++ va_pl L f)) (hS : va_S A H0 H locs) (hA : ∀ q, H0.size ≤ q → A q) {n k : Int32} {N' K' : Nat} {z : vp_A} (hn : ¬ n < 0) (hk : ¬ k < 0) (hN : n.toNatClampNeg = N') (hM : k.toNatClampNeg = K')
    (hb1 : N' * 4 ≤ 536870912) (hb2 : K' * componentBytes ty ≤ 536870912) (hb3 : K' ≤ 536870912) (hdf : fits ty (defaultValue ty) = true) (hdd : (defaultValue ty).isDefault = true) (hcells : cells + (1 + N') ≤ R.cells) (hslots : slots + (N' + N' * K') ≤ R.slots) (hz : ∀ c : ClassId, Jvm.Free.Multi.innerC c K' (defaultValue ty) = vp_cell c z) (hdg : decode cc pc = .ok (.multianewarray index 2, 4))
    (kk : ∀ (q : Nat) (r : Nat → Nat) (cA : ClassId) (H1 : Heap), (∀ i j : Nat, i < N' → j < N' → r i = r j → i = j) → (∀ i : Nat, i < N' → r i ∉ L) → va_K D cl (tys ++ [(cA, .array ty)]) s →
      va_P D cl ((X ++ [(q, .inl (cA, N', .inr (.inr (.inr (.inr (fun i => if i < N' then some (r i) else none))))))]) ++ va_pl (L ++ (List.range N').map r) (vr_up f ((List.range N').map r) (.inl (cy, z)))) H1 → va_D A ((X ++ [(q, .inl (cA, N', .inr (.inr (.inr (.inr (fun i => if i < N' then some (r i) else none))))))]) ++ va_pl (L ++ (List.range N').map r) (vr_up f ((List.range N').map r) (.inl (cy, z)))) → va_S A H0 H1 locs →
      W p l e R s m args below meth c H1 locs (cells + 1 + N') (slots + N' + N' * K') Q (F0 m (pc + 4) ls (.ref q :: rest))) : W p l e R s m args below meth c H locs cells slots Q (F0 m pc ls (.int k :: .int n :: rest)) := by
  subst hN
  subst hM
  intro T hT Xs
  obtain ⟨vm₁, cA, comp, -, fA, fC, hO, -, X', step⟩ := Xs.multianewarray2F hexec hown hclink (va_AOA.use hover) harr (g := F0 m pc ls (.int k :: .int n :: rest)) rfl (by rw [hb]; exact hdg) rfl hn hk hb1 hb2 hb3 hdf hdd hcells hslots
  have ec : some cy = some comp := hcy.symm.trans fC
  cases ec
  generalize hF : Jvm.Free.Multi.fill (T.setVm vm₁) cA cy n.toNatClampNeg k.toNatClampNeg (defaultValue ty) n.toNatClampNeg = F at X' step
  have hTh : (T.setVm vm₁).heap = H := hT
  obtain ⟨f1, f2, -, -⟩ := Jvm.Free.Multi.fill_facts (T.setVm vm₁) cA cy n.toNatClampNeg k.toNatClampNeg (defaultValue ty) n.toNatClampNeg
  rw [hF, hTh] at f1 f2
  have hold : ∀ x : Nat, x < H.size → F.heap[x]? = H[x]? := fun x hx => by
    have := Jvm.Free.Multi.fill_old (T.setVm vm₁) cA cy n.toNatClampNeg k.toNatClampNeg (defaultValue ty) (a := x) (by rw [hTh]; exact hx) n.toNatClampNeg
    rw [hF, hTh] at this
    exact this
  have hrow : ∀ j : Nat, j < n.toNatClampNeg → F.heap[H.size + 1 + j]? = some (vp_cell cy z) := fun j hj => by
    have := Jvm.Free.Multi.fill_inner (T.setVm vm₁) cA cy n.toNatClampNeg k.toNatClampNeg (defaultValue ty) n.toNatClampNeg j hj
    rw [hF, hTh, hz] at this
    exact this
  have hout : Jvm.Free.Multi.outerC cA n.toNatClampNeg H.size n.toNatClampNeg = vp_cell cA (n.toNatClampNeg, .inr (.inr (.inr (.inr (fun i => if i < n.toNatClampNeg then some (H.size + 1 + i) else none))))) := by
    rw [vp_cell_q]
    exact vr_outer cA n.toNatClampNeg H.size n.toNatClampNeg
  rw [hout] at f2
  have hlt : ∀ a, a ∈ L → a < H.size := fun a ha => by
    obtain ⟨k9, hk9⟩ := va_pl_get (X := X) (f := f) ha
    exact (hP k9 _ hk9).lt
  have hnl : ∀ i : Nat, i < n.toNatClampNeg → H.size + 1 + i ∉ L := fun i _ h => by
    have := hlt _ h
    omega
  have hnm : ∀ a, a ∈ (List.range n.toNatClampNeg).map (fun i => H.size + 1 + i) → a ∉ L := fun a ha h => by
    obtain ⟨i, -, rfl⟩ := List.mem_map.mp ha
    have := hlt _ h
    omega
  have hP0 : va_P D cl (X ++ va_pl L f) F.heap := hP.kept (fun k9 x hx => hold x.1 ((hP k9 x hx).lt))
  have hP1 : va_P D cl ((X ++ va_pl L f) ++ [(H.size, .inl (cA, n.toNatClampNeg, .inr (.inr (.inr (.inr (fun i => if i < n.toNatClampNeg then some (H.size + 1 + i) else none))))))]) F.heap := hP0.app (fun k9 x hx => by
    have h0 : k9 < 1 := (List.getElem?_eq_some_iff.mp hx).1
    rw [show k9 = 0 by omega] at hx
    cases hx
    exact f2)
  have hP2 : va_P D cl (((X ++ va_pl L f) ++ [(H.size, .inl (cA, n.toNatClampNeg, .inr (.inr (.inr (.inr (fun i => if i < n.toNatClampNeg then some (H.size + 1 + i) else none))))))]) ++ ((List.range n.toNatClampNeg).map (fun i => H.size + 1 + i)).map (fun a => (a, .inl (cy, z)))) F.heap := hP1.app (fun k9 x hx => by
    obtain ⟨a, ha, rfl⟩ := List.mem_map.mp (List.mem_of_getElem? hx)
    obtain ⟨i, hi, rfl⟩ := List.mem_map.mp ha
    exact hrow i (List.mem_range.mp hi))
  have hD2 : va_D A (((X ++ va_pl L f) ++ [(H.size, .inl (cA, n.toNatClampNeg, .inr (.inr (.inr (.inr (fun i => if i < n.toNatClampNeg then some (H.size + 1 + i) else none))))))]) ++ ((List.range n.toNatClampNeg).map (fun i => H.size + 1 + i)).map (fun a => (a, .inl (cy, z)))) := by
    have hD1 := hD.push (e := .inl (cA, n.toNatClampNeg, .inr (.inr (.inr (.inr (fun i => if i < n.toNatClampNeg then some (H.size + 1 + i) else none)))))) hP rfl (hA _ hS.1)
    generalize hW1 : (X ++ va_pl L f) ++ [(H.size, .inl (cA, n.toNatClampNeg, .inr (.inr (.inr (.inr (fun i => if i < n.toNatClampNeg then some (H.size + 1 + i) else none))))))] = W1 at hD1 hP1 ⊢
    have hle : ∀ (k9 : Nat) (x : Nat × va_E), W1[k9]? = some x → x.1 ≤ H.size := fun k9 x hx => by
      rw [← hW1] at hx
      by_cases hl : k9 < (X ++ va_pl L f).length
      · rw [List.getElem?_append_left hl] at hx
        exact Nat.le_of_lt ((hP k9 x hx).lt)
      · rw [List.getElem?_append_right (by omega)] at hx
        have h0 : k9 - (X ++ va_pl L f).length < 1 := (List.getElem?_eq_some_iff.mp hx).1
        rw [show k9 - (X ++ va_pl L f).length = 0 by omega] at hx
        cases hx
        exact Nat.le_refl _
    have hr : ∀ (k9 : Nat) (x : Nat × va_E), (((List.range n.toNatClampNeg).map (fun i => H.size + 1 + i)).map (fun a => ((a, .inl (cy, z)) : Nat × va_E)))[k9]? = some x → x.1 = H.size + 1 + k9 := fun k9 x hx => by
      rw [List.getElem?_map, List.getElem?_map] at hx
      by_cases h9 : k9 < n.toNatClampNeg
      · rw [List.getElem?_range h9] at hx
        cases hx
        rfl
      · have hn0 : (List.range n.toNatClampNeg)[k9]? = none := List.getElem?_eq_none (by rw [List.length_range]; omega)
        rw [hn0] at hx
        cases hx
    refine ⟨fun i j x y hi hj hxy => ?_, fun k9 x hx => ?_⟩
    · by_cases h1 : i < W1.length <;> by_cases h2 : j < W1.length
      · rw [List.getElem?_append_left h1] at hi
        rw [List.getElem?_append_left h2] at hj
        exact hD1.1 i j x y hi hj hxy
      · rw [List.getElem?_append_left h1] at hi
        rw [List.getElem?_append_right (by omega)] at hj
        have := hle _ _ hi
        have := hr _ _ hj
        omega
      · rw [List.getElem?_append_right (by omega)] at hi
        rw [List.getElem?_append_left h2] at hj
        have := hle _ _ hj
        have := hr _ _ hi
        omega
      · rw [List.getElem?_append_right (by omega)] at hi hj
        have := hr _ _ hi
        have := hr _ _ hj
        omega
    · by_cases h1 : k9 < W1.length
      · rw [List.getElem?_append_left h1] at hx
        exact hD1.2 k9 x hx
      · rw [List.getElem?_append_right (by omega)] at hx
        have := hr _ _ hx
        exact hA _ (by have := hS.1; omega)
  have hAr : ArrOfT s cA (.array ty) := fun N9 z9 => by
    obtain ⟨-, k9, hk9, cm9, hkk9⟩ := (hO 0 0 0).1
    exact ⟨(fun q hq => by cases hq), k9, hk9, cm9, hkk9⟩
  have hK2 : va_K D cl (tys ++ [(cA, .array ty)]) s := ⟨hK.1, fun k9 x hx => by
    by_cases hl : k9 < tys.length
    · rw [List.getElem?_append_left hl] at hx
      exact hK.2 k9 x hx
    · rw [List.getElem?_append_right (by omega)] at hx
      have h0 : k9 - tys.length < 1 := (List.getElem?_eq_some_iff.mp hx).1
      rw [show k9 - tys.length = 0 by omega] at hx
      cases hx
      exact ⟨hAr, fA⟩⟩
  obtain ⟨t, a1, b1⟩ := kk H.size (fun i => H.size + 1 + i) cA F.heap (fun i j _ _ h => by have h9 : H.size + 1 + i = H.size + 1 + j := h; omega) hnl hK2 (by rw [← vr_rows hnm]; exact vr_lay hP2) (by rw [← vr_rows hnm]; exact vr_layD hD2) ⟨by rw [f1]; have := hS.1; omega, fun x h1 h2 => (hold x (Nat.lt_of_lt_of_le h1 hS.1)).trans (hS.2.1 x h1 h2), hS.2.2⟩ F rfl X'
  refine ⟨t, step t ?_, b1⟩
  have e : T.heap.size = H.size := by rw [hT]
  rw [e]
  exact a1
end VGM
/-! ===== END ===== -/

/-! ===== BEGIN printed: names, fields, word lists, decode rows ===== -/
def RX0 : String := "TeaRace$Order"
def TX0 : u_T := fun k => match k with
  | 0 => ("TeaRace$Order", "way", "I", true)
  | 1 => ("TeaRace$Order", "west", "I", true)
  | 2 => ("TeaRace$Order", "east", "I", true)
  | 3 => ("TeaRace$Order", "north", "I", true)
  | 4 => ("TeaRace$Order", "south", "I", true)
  | _ => ("TeaRace$Order", "strength", "I", true)
def tyX0 : Nat → FieldType := fun k => match k with
  | 0 => .int
  | 1 => .int
  | 2 => .int
  | 3 => .int
  | 4 => .int
  | _ => .int
abbrev wsX00 : List Cond := u_ws RX0 TX0 6
theorem nmX0 : ∀ a, a < 6 → ∀ b, b < 6 → a ≠ b → (TX0 a).2.1 ≠ (TX0 b).2.1 := by decide +kernel
theorem tyX0_ok : ∀ k, k < 6 → parseFieldDescriptor (TX0 k).2.2.1 = some (tyX0 k) := by decide +kernel
abbrev cX0_init : ByteArray := prog_2_method_1_code
def yX0_init : MethodName := ⟨RX0, "<init>", "(IIIIII)V"⟩
abbrev cX0_fits : ByteArray := prog_2_method_2_code
def yX0_fits : MethodName := ⟨RX0, "fits", "(II)Z"⟩
def RX1 : String := "TeaRace$Passage"
def TX1 : u_T := fun k => match k with
  | 0 => ("TeaRace$Passage", "hoursTo", "[I", true)
  | _ => ("TeaRace$Passage", "departed", "[Z", true)
def tyX1 : Nat → FieldType := fun k => match k with
  | 0 => .array .int
  | _ => .array .boolean
abbrev wsX10 : List Cond := u_ws RX1 TX1 2
theorem nmX1 : ∀ a, a < 2 → ∀ b, b < 2 → a ≠ b → (TX1 a).2.1 ≠ (TX1 b).2.1 := by decide +kernel
theorem tyX1_ok : ∀ k, k < 2 → parseFieldDescriptor (TX1 k).2.2.1 = some (tyX1 k) := by decide +kernel
abbrev cX1_init : ByteArray := prog_3_method_1_code
def yX1_init : MethodName := ⟨RX1, "<init>", "()V"⟩
abbrev cX1_leastHours : ByteArray := prog_3_method_2_code
def yX1_leastHours : MethodName := ⟨RX1, "leastHours", "(LTeaRace$Sea;LTeaRace$Ship;III)I"⟩
abbrev cX1_leave : ByteArray := prog_3_method_3_code
def yX1_leave : MethodName := ⟨RX1, "leave", "(LTeaRace$Sea;LTeaRace$Ship;II)V"⟩
abbrev cX1_comingHour : ByteArray := prog_3_method_4_code
def yX1_comingHour : MethodName := ⟨RX1, "comingHour", "(LTeaRace$Sea;LTeaRace$Ship;IIII)I"⟩
abbrev cX1_hoursFor : ByteArray := prog_3_method_5_code
def yX1_hoursFor : MethodName := ⟨RX1, "hoursFor", "(II)I"⟩
abbrev cX1_reach : ByteArray := prog_3_method_6_code
def yX1_reach : MethodName := ⟨RX1, "reach", "(II)V"⟩
abbrev cX1_earliestCell : ByteArray := prog_3_method_7_code
def yX1_earliestCell : MethodName := ⟨RX1, "earliestCell", "()I"⟩
def RX2 : String := "TeaRace$Sea"
def TX2 : u_T := fun k => match k with
  | 0 => ("TeaRace$Sea", "landCells", "[Z", true)
  | 1 => ("TeaRace$Sea", "chartThere", "[Z", true)
  | _ => ("TeaRace$Sea", "charts", "[[B", true)
def tyX2 : Nat → FieldType := fun k => match k with
  | 0 => .array .boolean
  | 1 => .array .boolean
  | _ => .array (.array .byte)
abbrev wsX20 : List Cond := u_ws RX2 TX2 3
theorem nmX2 : ∀ a, a < 3 → ∀ b, b < 3 → a ≠ b → (TX2 a).2.1 ≠ (TX2 b).2.1 := by decide +kernel
theorem tyX2_ok : ∀ k, k < 3 → parseFieldDescriptor (TX2 k).2.2.1 = some (tyX2 k) := by decide +kernel
abbrev cX2_init : ByteArray := prog_4_method_1_code
def yX2_init : MethodName := ⟨RX2, "<init>", "()V"⟩
abbrev cX2_isLand : ByteArray := prog_4_method_2_code
def yX2_isLand : MethodName := ⟨RX2, "isLand", "(I)Z"⟩
abbrev cX2_setLand : ByteArray := prog_4_method_3_code
def yX2_setLand : MethodName := ⟨RX2, "setLand", "(IZ)V"⟩
abbrev cX2_hasChart : ByteArray := prog_4_method_4_code
def yX2_hasChart : MethodName := ⟨RX2, "hasChart", "(I)Z"⟩
abbrev cX2_chartsThere : ByteArray := prog_4_method_5_code
def yX2_chartsThere : MethodName := ⟨RX2, "chartsThere", "()I"⟩
abbrev cX2_drawCalm : ByteArray := prog_4_method_6_code
def yX2_drawCalm : MethodName := ⟨RX2, "drawCalm", "(I)V"⟩
abbrev cX2_loseChart : ByteArray := prog_4_method_7_code
def yX2_loseChart : MethodName := ⟨RX2, "loseChart", "(I)V"⟩
abbrev cX2_drawnAt : ByteArray := prog_4_method_8_code
def yX2_drawnAt : MethodName := ⟨RX2, "drawnAt", "(II)I"⟩
abbrev cX2_drawAt : ByteArray := prog_4_method_9_code
def yX2_drawAt : MethodName := ⟨RX2, "drawAt", "(IIB)V"⟩
abbrev cX2_copyChart : ByteArray := prog_4_method_10_code
def yX2_copyChart : MethodName := ⟨RX2, "copyChart", "(IIIII)V"⟩
abbrev cX2_windIn : ByteArray := prog_4_method_11_code
def yX2_windIn : MethodName := ⟨RX2, "windIn", "(II)I"⟩
abbrev cX2_nextCell : ByteArray := prog_4_method_12_code
def yX2_nextCell : MethodName := ⟨RX2, "nextCell", "(II)I"⟩
abbrev cX2_digestChart : ByteArray := prog_4_method_13_code
def yX2_digestChart : MethodName := ⟨RX2, "digestChart", "(IJ)J"⟩
def RX3 : String := "TeaRace$Ship"
def TX3 : u_T := fun k => match k with
  | 0 => ("TeaRace$Ship", "number", "I", true)
  | 1 => ("TeaRace$Ship", "kind", "I", true)
  | 2 => ("TeaRace$Ship", "chests", "I", true)
  | 3 => ("TeaRace$Ship", "orders", "Ljava/util/List;", true)
  | 4 => ("TeaRace$Ship", "sights", "Ljava/util/List;", true)
  | 5 => ("TeaRace$Ship", "cell", "I", false)
  | 6 => ("TeaRace$Ship", "gone", "I", false)
  | 7 => ("TeaRace$Ship", "way", "I", false)
  | 8 => ("TeaRace$Ship", "foulness", "I", false)
  | 9 => ("TeaRace$Ship", "cellsComeTo", "I", false)
  | 10 => ("TeaRace$Ship", "homeHour", "I", false)
  | 11 => ("TeaRace$Ship", "entry", "I", false)
  | 12 => ("TeaRace$Ship", "rate", "I", false)
  | _ => ("TeaRace$Ship", "premium", "I", false)
def tyX3 : Nat → FieldType := fun k => match k with
  | 0 => .int
  | 1 => .int
  | 2 => .int
  | 3 => .object "java/util/List"
  | 4 => .object "java/util/List"
  | 5 => .int
  | 6 => .int
  | 7 => .int
  | 8 => .int
  | 9 => .int
  | 10 => .int
  | 11 => .int
  | 12 => .int
  | _ => .int
abbrev wsX30 : List Cond := u_ws RX3 TX3 14
theorem nmX3 : ∀ a, a < 14 → ∀ b, b < 14 → a ≠ b → (TX3 a).2.1 ≠ (TX3 b).2.1 := by decide +kernel
theorem tyX3_ok : ∀ k, k < 14 → parseFieldDescriptor (TX3 k).2.2.1 = some (tyX3 k) := by decide +kernel
abbrev cX3_init : ByteArray := prog_5_method_1_code
def yX3_init : MethodName := ⟨RX3, "<init>", "(IIII)V"⟩
abbrev cX3_isHome : ByteArray := prog_5_method_2_code
def yX3_isHome : MethodName := ⟨RX3, "isHome", "()Z"⟩
abbrev cX3_isOf : ByteArray := prog_5_method_3_code
def yX3_isOf : MethodName := ⟨RX3, "isOf", "(I)Z"⟩
abbrev cX3_speedIn : ByteArray := prog_5_method_4_code
def yX3_speedIn : MethodName := ⟨RX3, "speedIn", "(II)I"⟩
abbrev cX3_sailSpeed : ByteArray := prog_5_method_5_code
def yX3_sailSpeed : MethodName := ⟨RX3, "sailSpeed", "(II)I"⟩
abbrev cX3_moreAcrossTheWind : ByteArray := prog_5_method_6_code
def yX3_moreAcrossTheWind : MethodName := ⟨RX3, "moreAcrossTheWind", "()I"⟩
abbrev cX3_askWay : ByteArray := prog_5_method_7_code
def yX3_askWay : MethodName := ⟨RX3, "askWay", "(I)V"⟩
abbrev cX3_beats : ByteArray := prog_5_method_8_code
def yX3_beats : MethodName := ⟨RX3, "beats", "(LTeaRace$Ship;)Z"⟩
abbrev cX3_entersBefore : ByteArray := prog_5_method_9_code
def yX3_entersBefore : MethodName := ⟨RX3, "entersBefore", "(LTeaRace$Ship;)Z"⟩
abbrev cX3_isUnseenFrom : ByteArray := prog_5_method_10_code
def yX3_isUnseenFrom : MethodName := ⟨RX3, "isUnseenFrom", "(I)Z"⟩
abbrev cX3_isSeenAround : ByteArray := prog_5_method_11_code
def yX3_isSeenAround : MethodName := ⟨RX3, "isSeenAround", "(I)Z"⟩
abbrev cX3_lastSightBy : ByteArray := prog_5_method_12_code
def yX3_lastSightBy : MethodName := ⟨RX3, "lastSightBy", "(I)LTeaRace$Sight;"⟩
abbrev cX3_firstSightFrom : ByteArray := prog_5_method_13_code
def yX3_firstSightFrom : MethodName := ⟨RX3, "firstSightFrom", "(I)LTeaRace$Sight;"⟩
def RX4 : String := "TeaRace$Sight"
def TX4 : u_T := fun k => match k with
  | 0 => ("TeaRace$Sight", "cell", "I", true)
  | _ => ("TeaRace$Sight", "hour", "I", true)
def tyX4 : Nat → FieldType := fun k => match k with
  | 0 => .int
  | _ => .int
abbrev wsX40 : List Cond := u_ws RX4 TX4 2
theorem nmX4 : ∀ a, a < 2 → ∀ b, b < 2 → a ≠ b → (TX4 a).2.1 ≠ (TX4 b).2.1 := by decide +kernel
theorem tyX4_ok : ∀ k, k < 2 → parseFieldDescriptor (TX4 k).2.2.1 = some (tyX4 k) := by decide +kernel
abbrev cX4_init : ByteArray := prog_6_method_1_code
def yX4_init : MethodName := ⟨RX4, "<init>", "(II)V"⟩
def RX5 : String := "TeaRace"
def TX5 : u_T := fun k => match k with
  | 0 => ("TeaRace", "sea", "LTeaRace$Sea;", true)
  | 1 => ("TeaRace", "passage", "LTeaRace$Passage;", true)
  | 2 => ("TeaRace", "fleet", "Ljava/util/List;", true)
  | 3 => ("TeaRace", "findingCounts", "[I", true)
  | 4 => ("TeaRace", "latestFinding", "I", false)
  | 5 => ("TeaRace", "hour", "I", false)
  | 6 => ("TeaRace", "homeCell", "I", false)
  | 7 => ("TeaRace", "gateHour", "I", false)
  | 8 => ("TeaRace", "sightCount", "I", false)
  | 9 => ("TeaRace", "priceAtFirst", "I", false)
  | 10 => ("TeaRace", "fallOfPrice", "I", false)
  | _ => ("TeaRace", "latestSale", "J", false)
def tyX5 : Nat → FieldType := fun k => match k with
  | 0 => .object "TeaRace$Sea"
  | 1 => .object "TeaRace$Passage"
  | 2 => .object "java/util/List"
  | 3 => .array .int
  | 4 => .int
  | 5 => .int
  | 6 => .int
  | 7 => .int
  | 8 => .int
  | 9 => .int
  | 10 => .int
  | _ => .long
abbrev wsX50 : List Cond := u_ws RX5 TX5 12
theorem nmX5 : ∀ a, a < 12 → ∀ b, b < 12 → a ≠ b → (TX5 a).2.1 ≠ (TX5 b).2.1 := by decide +kernel
theorem tyX5_ok : ∀ k, k < 12 → parseFieldDescriptor (TX5 k).2.2.1 = some (tyX5 k) := by decide +kernel
abbrev cX5_init : ByteArray := prog_1_method_1_code
def yX5_init : MethodName := ⟨RX5, "<init>", "()V"⟩
abbrev cX5_land : ByteArray := prog_1_method_2_code
def yX5_land : MethodName := ⟨RX5, "land", "(IZ)I"⟩
abbrev cX5_chart : ByteArray := prog_1_method_3_code
def yX5_chart : MethodName := ⟨RX5, "chart", "(I)I"⟩
abbrev cX5_wind : ByteArray := prog_1_method_4_code
def yX5_wind : MethodName := ⟨RX5, "wind", "(III)I"⟩
abbrev cX5_tear : ByteArray := prog_1_method_5_code
def yX5_tear : MethodName := ⟨RX5, "tear", "(I)I"⟩
abbrev cX5_copy : ByteArray := prog_1_method_6_code
def yX5_copy : MethodName := ⟨RX5, "copy", "(IIIII)I"⟩
abbrev cX5_mean : ByteArray := prog_1_method_7_code
def yX5_mean : MethodName := ⟨RX5, "mean", "(I)I"⟩
abbrev cX5_ship : ByteArray := prog_1_method_8_code
def yX5_ship : MethodName := ⟨RX5, "ship", "(III)I"⟩
abbrev cX5_foul : ByteArray := prog_1_method_9_code
def yX5_foul : MethodName := ⟨RX5, "foul", "(II)I"⟩
abbrev cX5_told : ByteArray := prog_1_method_10_code
def yX5_told : MethodName := ⟨RX5, "told", "(II)I"⟩
abbrev cX5_mark : ByteArray := prog_1_method_11_code
def yX5_mark : MethodName := ⟨RX5, "mark", "(II)I"⟩
abbrev cX5_speed : ByteArray := prog_1_method_12_code
def yX5_speed : MethodName := ⟨RX5, "speed", "(IIII)I"⟩
abbrev cX5_order : ByteArray := prog_1_method_13_code
def yX5_order : MethodName := ⟨RX5, "order", "(IIIIIII)I"⟩
abbrev cX5_home : ByteArray := prog_1_method_14_code
def yX5_home : MethodName := ⟨RX5, "home", "(II)I"⟩
abbrev cX5_run : ByteArray := prog_1_method_15_code
def yX5_run : MethodName := ⟨RX5, "run", "(I)I"⟩
abbrev cX5_first : ByteArray := prog_1_method_16_code
def yX5_first : MethodName := ⟨RX5, "first", "()I"⟩
abbrev cX5_least : ByteArray := prog_1_method_17_code
def yX5_least : MethodName := ⟨RX5, "least", "(IIII)I"⟩
abbrev cX5_sight : ByteArray := prog_1_method_18_code
def yX5_sight : MethodName := ⟨RX5, "sight", "(III)I"⟩
abbrev cX5_distance : ByteArray := prog_1_method_19_code
def yX5_distance : MethodName := ⟨RX5, "distance", "(IIZ)I"⟩
abbrev cX5_ahead : ByteArray := prog_1_method_20_code
def yX5_ahead : MethodName := ⟨RX5, "ahead", "(III)I"⟩
abbrev cX5_charter : ByteArray := prog_1_method_21_code
def yX5_charter : MethodName := ⟨RX5, "charter", "(III)I"⟩
abbrev cX5_freight : ByteArray := prog_1_method_22_code
def yX5_freight : MethodName := ⟨RX5, "freight", "(I)I"⟩
abbrev cX5_market : ByteArray := prog_1_method_23_code
def yX5_market : MethodName := ⟨RX5, "market", "(II)I"⟩
abbrev cX5_sale : ByteArray := prog_1_method_24_code
def yX5_sale : MethodName := ⟨RX5, "sale", "(I)I"⟩
abbrev cX5_meanPrice : ByteArray := prog_1_method_25_code
def yX5_meanPrice : MethodName := ⟨RX5, "meanPrice", "()I"⟩
abbrev cX5_asked : ByteArray := prog_1_method_26_code
def yX5_asked : MethodName := ⟨RX5, "asked", "()J"⟩
abbrev cX5_count : ByteArray := prog_1_method_27_code
def yX5_count : MethodName := ⟨RX5, "count", "(I)I"⟩
abbrev cX5_finding : ByteArray := prog_1_method_28_code
def yX5_finding : MethodName := ⟨RX5, "finding", "()I"⟩
abbrev cX5_findings : ByteArray := prog_1_method_29_code
def yX5_findings : MethodName := ⟨RX5, "findings", "(I)I"⟩
abbrev cX5_digest : ByteArray := prog_1_method_30_code
def yX5_digest : MethodName := ⟨RX5, "digest", "()J"⟩
abbrev cX5_outside : ByteArray := prog_1_method_31_code
def yX5_outside : MethodName := ⟨RX5, "outside", "(II)Z"⟩
abbrev cX5_isNoSpan : ByteArray := prog_1_method_32_code
def yX5_isNoSpan : MethodName := ⟨RX5, "isNoSpan", "(III)Z"⟩
abbrev cX5_isNoWater : ByteArray := prog_1_method_33_code
def yX5_isNoWater : MethodName := ⟨RX5, "isNoWater", "(I)Z"⟩
abbrev cX5_shipOf : ByteArray := prog_1_method_34_code
def yX5_shipOf : MethodName := ⟨RX5, "shipOf", "(I)LTeaRace$Ship;"⟩
abbrev cX5_found : ByteArray := prog_1_method_35_code
def yX5_found : MethodName := ⟨RX5, "found", "(I)I"⟩
abbrev cX5_strengthOf : ByteArray := prog_1_method_36_code
def yX5_strengthOf : MethodName := ⟨RX5, "strengthOf", "(I)I"⟩
abbrev cX5_eighthsBetween : ByteArray := prog_1_method_37_code
def yX5_eighthsBetween : MethodName := ⟨RX5, "eighthsBetween", "(II)I"⟩
abbrev cX5_needOf : ByteArray := prog_1_method_38_code
def yX5_needOf : MethodName := ⟨RX5, "needOf", "(I)I"⟩
abbrev cX5_monthOf : ByteArray := prog_1_method_39_code
def yX5_monthOf : MethodName := ⟨RX5, "monthOf", "(I)I"⟩
abbrev cX5_entryFrom : ByteArray := prog_1_method_40_code
def yX5_entryFrom : MethodName := ⟨RX5, "entryFrom", "(I)I"⟩
abbrev cX5_sail : ByteArray := prog_1_method_41_code
def yX5_sail : MethodName := ⟨RX5, "sail", "(LTeaRace$Ship;I)V"⟩
abbrev cX5_moveOn : ByteArray := prog_1_method_42_code
def yX5_moveOn : MethodName := ⟨RX5, "moveOn", "(LTeaRace$Ship;I)V"⟩
abbrev cX5_comeTo : ByteArray := prog_1_method_43_code
def yX5_comeTo : MethodName := ⟨RX5, "comeTo", "(LTeaRace$Ship;II)V"⟩
abbrev cX5_shipsHome : ByteArray := prog_1_method_44_code
def yX5_shipsHome : MethodName := ⟨RX5, "shipsHome", "()I"⟩
abbrev cX5_theFirst : ByteArray := prog_1_method_45_code
def yX5_theFirst : MethodName := ⟨RX5, "theFirst", "()LTeaRace$Ship;"⟩
abbrev cX5_distanceFromHome : ByteArray := prog_1_method_46_code
def yX5_distanceFromHome : MethodName := ⟨RX5, "distanceFromHome", "(I)I"⟩
abbrev cX5_leastDistance : ByteArray := prog_1_method_47_code
def yX5_leastDistance : MethodName := ⟨RX5, "leastDistance", "(LTeaRace$Ship;I)I"⟩
abbrev cX5_mostDistance : ByteArray := prog_1_method_48_code
def yX5_mostDistance : MethodName := ⟨RX5, "mostDistance", "(LTeaRace$Ship;I)I"⟩
abbrev cX5_priceAtEntry : ByteArray := prog_1_method_49_code
def yX5_priceAtEntry : MethodName := ⟨RX5, "priceAtEntry", "(LTeaRace$Ship;)I"⟩
abbrev cX5_takings : ByteArray := prog_1_method_50_code
def yX5_takings : MethodName := ⟨RX5, "takings", "(LTeaRace$Ship;)J"⟩
def RX6 : String := "TeaRaceModel"
def TX6 : u_T := fun k => match k with
  | 0 => ("TeaRaceModel", "finding", "I", false)
  | 1 => ("TeaRaceModel", "findings", "[I", true)
  | 2 => ("TeaRaceModel", "asked", "J", false)
  | 3 => ("TeaRaceModel", "hour", "I", false)
  | 4 => ("TeaRaceModel", "isLand", "[Z", true)
  | 5 => ("TeaRaceModel", "isChart", "[Z", true)
  | 6 => ("TeaRaceModel", "winds", "[I", true)
  | 7 => ("TeaRaceModel", "home", "I", false)
  | 8 => ("TeaRaceModel", "gate", "I", false)
  | 9 => ("TeaRaceModel", "moving", "[I", true)
  | 10 => ("TeaRaceModel", "ships", "I", false)
  | 11 => ("TeaRaceModel", "kinds", "[I", true)
  | 12 => ("TeaRaceModel", "cells", "[I", true)
  | 13 => ("TeaRaceModel", "gone", "[I", true)
  | 14 => ("TeaRaceModel", "ways", "[I", true)
  | 15 => ("TeaRaceModel", "homeAt", "[I", true)
  | 16 => ("TeaRaceModel", "chests", "[I", true)
  | 17 => ("TeaRaceModel", "foulness", "[I", true)
  | 18 => ("TeaRaceModel", "came", "[I", true)
  | 19 => ("TeaRaceModel", "orders", "[I", true)
  | 20 => ("TeaRaceModel", "orderRows", "[I", true)
  | 21 => ("TeaRaceModel", "rates", "[I", true)
  | 22 => ("TeaRaceModel", "premiums", "[I", true)
  | 23 => ("TeaRaceModel", "hours", "[I", true)
  | 24 => ("TeaRaceModel", "isSettled", "[Z", true)
  | 25 => ("TeaRaceModel", "sights", "I", false)
  | 26 => ("TeaRaceModel", "sightShip", "[I", true)
  | 27 => ("TeaRaceModel", "sightCell", "[I", true)
  | 28 => ("TeaRaceModel", "sightHour", "[I", true)
  | 29 => ("TeaRaceModel", "price", "I", false)
  | _ => ("TeaRaceModel", "fall", "I", false)
def tyX6 : Nat → FieldType := fun k => match k with
  | 0 => .int
  | 1 => .array .int
  | 2 => .long
  | 3 => .int
  | 4 => .array .boolean
  | 5 => .array .boolean
  | 6 => .array .int
  | 7 => .int
  | 8 => .int
  | 9 => .array .int
  | 10 => .int
  | 11 => .array .int
  | 12 => .array .int
  | 13 => .array .int
  | 14 => .array .int
  | 15 => .array .int
  | 16 => .array .int
  | 17 => .array .int
  | 18 => .array .int
  | 19 => .array .int
  | 20 => .array .int
  | 21 => .array .int
  | 22 => .array .int
  | 23 => .array .int
  | 24 => .array .boolean
  | 25 => .int
  | 26 => .array .int
  | 27 => .array .int
  | 28 => .array .int
  | 29 => .int
  | _ => .int
end
section
abbrev wsX60 : List Cond := u_ws RX6 TX6 31
theorem nmX6 : ∀ a, a < 31 → ∀ b, b < 31 → a ≠ b → (TX6 a).2.1 ≠ (TX6 b).2.1 := by decide +kernel
theorem tyX6_ok : ∀ k, k < 31 → parseFieldDescriptor (TX6 k).2.2.1 = some (tyX6 k) := by decide +kernel
abbrev cX6_init : ByteArray := prog_8_method_1_code
def yX6_init : MethodName := ⟨RX6, "<init>", "()V"⟩
abbrev cX6_in : ByteArray := prog_8_method_3_code
def yX6_in : MethodName := ⟨RX6, "in", "(III)Z"⟩
abbrev cX6_meets : ByteArray := prog_8_method_4_code
def yX6_meets : MethodName := ⟨RX6, "meets", "(I)I"⟩
abbrev cX6_isCell : ByteArray := prog_8_method_5_code
def yX6_isCell : MethodName := ⟨RX6, "isCell", "(I)Z"⟩
abbrev cX6_isMonth : ByteArray := prog_8_method_6_code
def yX6_isMonth : MethodName := ⟨RX6, "isMonth", "(I)Z"⟩
abbrev cX6_land : ByteArray := prog_8_method_7_code
def yX6_land : MethodName := ⟨RX6, "land", "(IZ)I"⟩
abbrev cX6_looked : ByteArray := prog_8_method_8_code
def yX6_looked : MethodName := ⟨RX6, "looked", "(I)I"⟩
abbrev cX6_chart : ByteArray := prog_8_method_9_code
def yX6_chart : MethodName := ⟨RX6, "chart", "(I)I"⟩
abbrev cX6_wind : ByteArray := prog_8_method_10_code
def yX6_wind : MethodName := ⟨RX6, "wind", "(III)I"⟩
abbrev cX6_tear : ByteArray := prog_8_method_11_code
def yX6_tear : MethodName := ⟨RX6, "tear", "(I)I"⟩
abbrev cX6_copy : ByteArray := prog_8_method_12_code
def yX6_copy : MethodName := ⟨RX6, "copy", "(IIIII)I"⟩
abbrev cX6_strength : ByteArray := prog_8_method_13_code
def yX6_strength : MethodName := ⟨RX6, "strength", "(I)I"⟩
abbrev cX6_mean : ByteArray := prog_8_method_14_code
def yX6_mean : MethodName := ⟨RX6, "mean", "(I)I"⟩
abbrev cX6_windAt : ByteArray := prog_8_method_15_code
def yX6_windAt : MethodName := ⟨RX6, "windAt", "(II)I"⟩
abbrev cX6_nextCell : ByteArray := prog_8_method_16_code
def yX6_nextCell : MethodName := ⟨RX6, "nextCell", "(II)I"⟩
abbrev cX6_need : ByteArray := prog_8_method_17_code
def yX6_need : MethodName := ⟨RX6, "need", "(I)I"⟩
abbrev cX6_isShip : ByteArray := prog_8_method_18_code
def yX6_isShip : MethodName := ⟨RX6, "isShip", "(I)Z"⟩
abbrev cX6_ship : ByteArray := prog_8_method_19_code
def yX6_ship : MethodName := ⟨RX6, "ship", "(III)I"⟩
abbrev cX6_foul : ByteArray := prog_8_method_20_code
def yX6_foul : MethodName := ⟨RX6, "foul", "(II)I"⟩
abbrev cX6_entryOf : ByteArray := prog_8_method_21_code
def yX6_entryOf : MethodName := ⟨RX6, "entryOf", "(I)I"⟩
abbrev cX6_tells : ByteArray := prog_8_method_22_code
def yX6_tells : MethodName := ⟨RX6, "tells", "(II)I"⟩
abbrev cX6_told : ByteArray := prog_8_method_23_code
def yX6_told : MethodName := ⟨RX6, "told", "(II)I"⟩
abbrev cX6_speedOf : ByteArray := prog_8_method_24_code
def yX6_speedOf : MethodName := ⟨RX6, "speedOf", "(IIII)I"⟩
abbrev cX6_mark : ByteArray := prog_8_method_25_code
def yX6_mark : MethodName := ⟨RX6, "mark", "(II)I"⟩
abbrev cX6_isWay : ByteArray := prog_8_method_26_code
def yX6_isWay : MethodName := ⟨RX6, "isWay", "(I)Z"⟩
abbrev cX6_speed : ByteArray := prog_8_method_27_code
def yX6_speed : MethodName := ⟨RX6, "speed", "(IIII)I"⟩
abbrev cX6_order : ByteArray := prog_8_method_28_code
def yX6_order : MethodName := ⟨RX6, "order", "(IIIIIII)I"⟩
abbrev cX6_home : ByteArray := prog_8_method_29_code
def yX6_home : MethodName := ⟨RX6, "home", "(II)I"⟩
abbrev cX6_ask : ByteArray := prog_8_method_30_code
def yX6_ask : MethodName := ⟨RX6, "ask", "(I)V"⟩
abbrev cX6_go : ByteArray := prog_8_method_31_code
def yX6_go : MethodName := ⟨RX6, "go", "(I)V"⟩
abbrev cX6_atHome : ByteArray := prog_8_method_32_code
def yX6_atHome : MethodName := ⟨RX6, "atHome", "()I"⟩
abbrev cX6_run : ByteArray := prog_8_method_33_code
def yX6_run : MethodName := ⟨RX6, "run", "(I)I"⟩
abbrev cX6_firstShip : ByteArray := prog_8_method_34_code
def yX6_firstShip : MethodName := ⟨RX6, "firstShip", "()I"⟩
abbrev cX6_first : ByteArray := prog_8_method_35_code
def yX6_first : MethodName := ⟨RX6, "first", "()I"⟩
abbrev cX6_crossing : ByteArray := prog_8_method_36_code
def yX6_crossing : MethodName := ⟨RX6, "crossing", "(IIIII)I"⟩
abbrev cX6_least : ByteArray := prog_8_method_37_code
def yX6_least : MethodName := ⟨RX6, "least", "(IIII)I"⟩
abbrev cX6_sight : ByteArray := prog_8_method_38_code
def yX6_sight : MethodName := ⟨RX6, "sight", "(III)I"⟩
abbrev cX6_apart : ByteArray := prog_8_method_39_code
def yX6_apart : MethodName := ⟨RX6, "apart", "(II)I"⟩
abbrev cX6_farOf : ByteArray := prog_8_method_40_code
def yX6_farOf : MethodName := ⟨RX6, "farOf", "(I)I"⟩
abbrev cX6_distanceOf : ByteArray := prog_8_method_41_code
def yX6_distanceOf : MethodName := ⟨RX6, "distanceOf", "(IIZ)I"⟩
abbrev cX6_distance : ByteArray := prog_8_method_42_code
def yX6_distance : MethodName := ⟨RX6, "distance", "(IIZ)I"⟩
abbrev cX6_ahead : ByteArray := prog_8_method_43_code
def yX6_ahead : MethodName := ⟨RX6, "ahead", "(III)I"⟩
abbrev cX6_charter : ByteArray := prog_8_method_44_code
def yX6_charter : MethodName := ⟨RX6, "charter", "(III)I"⟩
abbrev cX6_freight : ByteArray := prog_8_method_45_code
def yX6_freight : MethodName := ⟨RX6, "freight", "(I)I"⟩
abbrev cX6_market : ByteArray := prog_8_method_46_code
def yX6_market : MethodName := ⟨RX6, "market", "(II)I"⟩
abbrev cX6_priceFor : ByteArray := prog_8_method_47_code
def yX6_priceFor : MethodName := ⟨RX6, "priceFor", "(I)I"⟩
abbrev cX6_sale : ByteArray := prog_8_method_48_code
def yX6_sale : MethodName := ⟨RX6, "sale", "(I)I"⟩
abbrev cX6_meanPrice : ByteArray := prog_8_method_49_code
def yX6_meanPrice : MethodName := ⟨RX6, "meanPrice", "()I"⟩
abbrev cX6_asked : ByteArray := prog_8_method_50_code
def yX6_asked : MethodName := ⟨RX6, "asked", "()J"⟩
abbrev cX6_tellsCount : ByteArray := prog_8_method_51_code
def yX6_tellsCount : MethodName := ⟨RX6, "tellsCount", "(I)I"⟩
abbrev cX6_count : ByteArray := prog_8_method_52_code
def yX6_count : MethodName := ⟨RX6, "count", "(I)I"⟩
abbrev cX6_finding : ByteArray := prog_8_method_53_code
def yX6_finding : MethodName := ⟨RX6, "finding", "()I"⟩
abbrev cX6_findings : ByteArray := prog_8_method_54_code
def yX6_findings : MethodName := ⟨RX6, "findings", "(I)I"⟩
abbrev cX6_digest : ByteArray := prog_8_method_55_code
def yX6_digest : MethodName := ⟨RX6, "digest", "()J"⟩
def RJx145de : String := "java/io/Serializable"
def TJx145de : u_T := fun k => match k with
  | _ => ("", "", "", false)
def tyJx145de : Nat → FieldType := fun k => match k with
  | _ => .int
abbrev wsJx145de0 : List Cond := u_ws RJx145de TJx145de 0
theorem nmJx145de : ∀ a, a < 0 → ∀ b, b < 0 → a ≠ b → (TJx145de a).2.1 ≠ (TJx145de b).2.1 := by decide +kernel
theorem tyJx145de_ok : ∀ k, k < 0 → parseFieldDescriptor (TJx145de k).2.2.1 = some (tyJx145de k) := by decide +kernel
def RJx8e188 : String := "java/lang/Cloneable"
def TJx8e188 : u_T := fun k => match k with
  | _ => ("", "", "", false)
def tyJx8e188 : Nat → FieldType := fun k => match k with
  | _ => .int
abbrev wsJx8e1880 : List Cond := u_ws RJx8e188 TJx8e188 0
theorem nmJx8e188 : ∀ a, a < 0 → ∀ b, b < 0 → a ≠ b → (TJx8e188 a).2.1 ≠ (TJx8e188 b).2.1 := by decide +kernel
theorem tyJx8e188_ok : ∀ k, k < 0 → parseFieldDescriptor (TJx8e188 k).2.2.1 = some (tyJx8e188 k) := by decide +kernel
def RJxab1ab : String := "java/lang/Iterable"
def TJxab1ab : u_T := fun k => match k with
  | _ => ("", "", "", false)
def tyJxab1ab : Nat → FieldType := fun k => match k with
  | _ => .int
abbrev wsJxab1ab0 : List Cond := u_ws RJxab1ab TJxab1ab 0
theorem nmJxab1ab : ∀ a, a < 0 → ∀ b, b < 0 → a ≠ b → (TJxab1ab a).2.1 ≠ (TJxab1ab b).2.1 := by decide +kernel
theorem tyJxab1ab_ok : ∀ k, k < 0 → parseFieldDescriptor (TJxab1ab k).2.2.1 = some (tyJxab1ab k) := by decide +kernel
def RJ9 : String := "java/lang/Math"
def TJ9 : u_T := fun k => match k with
  | _ => ("", "", "", false)
def tyJ9 : Nat → FieldType := fun k => match k with
  | _ => .int
abbrev wsJ90 : List Cond := u_ws RJ9 TJ9 0
theorem nmJ9 : ∀ a, a < 0 → ∀ b, b < 0 → a ≠ b → (TJ9 a).2.1 ≠ (TJ9 b).2.1 := by decide +kernel
theorem tyJ9_ok : ∀ k, k < 0 → parseFieldDescriptor (TJ9 k).2.2.1 = some (tyJ9 k) := by decide +kernel
abbrev cJ9_floorMod_7cf53 : ByteArray := prog_12_method_50_code
def yJ9_floorMod_7cf53 : MethodName := ⟨RJ9, "floorMod", "(II)I"⟩
abbrev cJ9_abs_0f7a4 : ByteArray := prog_12_method_59_code
def yJ9_abs_0f7a4 : MethodName := ⟨RJ9, "abs", "(I)I"⟩
abbrev cJ9_max_7cf53 : ByteArray := prog_12_method_65_code
def yJ9_max_7cf53 : MethodName := ⟨RJ9, "max", "(II)I"⟩
abbrev cJ9_min_7cf53 : ByteArray := prog_12_method_69_code
def yJ9_min_7cf53 : MethodName := ⟨RJ9, "min", "(II)I"⟩
def RJ10 : String := "java/lang/System"
def TJ10 : u_T := fun k => match k with
  | _ => ("", "", "", false)
def tyJ10 : Nat → FieldType := fun k => match k with
  | _ => .int
abbrev wsJ100 : List Cond := u_ws RJ10 TJ10 0
theorem nmJ10 : ∀ a, a < 0 → ∀ b, b < 0 → a ≠ b → (TJ10 a).2.1 ≠ (TJ10 b).2.1 := by decide +kernel
theorem tyJ10_ok : ∀ k, k < 0 → parseFieldDescriptor (TJ10 k).2.2.1 = some (tyJ10 k) := by decide +kernel
def RJxa1e45 : String := "java/util/AbstractCollection"
def TJxa1e45 : u_T := fun k => match k with
  | _ => ("", "", "", false)
def tyJxa1e45 : Nat → FieldType := fun k => match k with
  | _ => .int
abbrev wsJxa1e450 : List Cond := u_ws RJxa1e45 TJxa1e45 0
theorem nmJxa1e45 : ∀ a, a < 0 → ∀ b, b < 0 → a ≠ b → (TJxa1e45 a).2.1 ≠ (TJxa1e45 b).2.1 := by decide +kernel
theorem tyJxa1e45_ok : ∀ k, k < 0 → parseFieldDescriptor (TJxa1e45 k).2.2.1 = some (tyJxa1e45 k) := by decide +kernel
abbrev cJxa1e45_init_da8c8 : ByteArray := prog_14_method_1_code
def yJxa1e45_init_da8c8 : MethodName := ⟨RJxa1e45, "<init>", "()V"⟩
def RJxc12de : String := "java/util/AbstractList"
def TJxc12de : u_T := fun k => match k with
  | _ => ("", "", "", false)
def tyJxc12de : Nat → FieldType := fun k => match k with
  | _ => .int
abbrev wsJxc12de0 : List Cond := u_ws RJxc12de TJxc12de 0
theorem nmJxc12de : ∀ a, a < 0 → ∀ b, b < 0 → a ≠ b → (TJxc12de a).2.1 ≠ (TJxc12de b).2.1 := by decide +kernel
theorem tyJxc12de_ok : ∀ k, k < 0 → parseFieldDescriptor (TJxc12de k).2.2.1 = some (tyJxc12de k) := by decide +kernel
abbrev cJxc12de_init_da8c8 : ByteArray := prog_15_method_1_code
def yJxc12de_init_da8c8 : MethodName := ⟨RJxc12de, "<init>", "()V"⟩
def RJx4a65c : String := "java/util/ArrayList"
def TJx4a65c : u_T := fun k => match k with
  | 0 => ("java/util/AbstractList", "modCount", "I", false)
  | 1 => ("java/util/ArrayList", "elementData", "[Ljava/lang/Object;", false)
  | _ => ("java/util/ArrayList", "size", "I", false)
def tyJx4a65c : Nat → FieldType := fun k => match k with
  | 0 => .int
  | 1 => .array (.object "java/lang/Object")
  | _ => .int
abbrev wsJx4a65c0 : List Cond := u_ws RJx4a65c TJx4a65c 3
theorem nmJx4a65c : ∀ a, a < 3 → ∀ b, b < 3 → a ≠ b → (TJx4a65c a).2.1 ≠ (TJx4a65c b).2.1 := by decide +kernel
theorem tyJx4a65c_ok : ∀ k, k < 3 → parseFieldDescriptor (TJx4a65c k).2.2.1 = some (tyJx4a65c k) := by decide +kernel
abbrev cJx4a65c_init_da8c8 : ByteArray := prog_16_method_2_code
def yJx4a65c_init_da8c8 : MethodName := ⟨RJx4a65c, "<init>", "()V"⟩
abbrev cJx4a65c_grow_92f84 : ByteArray := prog_16_method_6_code
def yJx4a65c_grow_92f84 : MethodName := ⟨RJx4a65c, "grow", "(I)[Ljava/lang/Object;"⟩
abbrev cJx4a65c_grow_d5877 : ByteArray := prog_16_method_7_code
def yJx4a65c_grow_d5877 : MethodName := ⟨RJx4a65c, "grow", "()[Ljava/lang/Object;"⟩
abbrev cJx4a65c_size_8abf5 : ByteArray := prog_16_method_8_code
def yJx4a65c_size_8abf5 : MethodName := ⟨RJx4a65c, "size", "()I"⟩
abbrev cJx4a65c_elementData_915e3 : ByteArray := prog_16_method_18_code
def yJx4a65c_elementData_915e3 : MethodName := ⟨RJx4a65c, "elementData", "(I)Ljava/lang/Object;"⟩
abbrev cJx4a65c_get_915e3 : ByteArray := prog_16_method_20_code
def yJx4a65c_get_915e3 : MethodName := ⟨RJx4a65c, "get", "(I)Ljava/lang/Object;"⟩
abbrev cJx4a65c_add_72be8 : ByteArray := prog_16_method_24_code
def yJx4a65c_add_72be8 : MethodName := ⟨RJx4a65c, "add", "(Ljava/lang/Object;[Ljava/lang/Object;I)V"⟩
abbrev cJx4a65c_add_9ea2d : ByteArray := prog_16_method_25_code
def yJx4a65c_add_9ea2d : MethodName := ⟨RJx4a65c, "add", "(Ljava/lang/Object;)Z"⟩
def RJ7 : String := "java/util/Arrays"
def TJ7 : u_T := fun k => match k with
  | _ => ("", "", "", false)
def tyJ7 : Nat → FieldType := fun k => match k with
  | _ => .int
abbrev wsJ70 : List Cond := u_ws RJ7 TJ7 0
theorem nmJ7 : ∀ a, a < 0 → ∀ b, b < 0 → a ≠ b → (TJ7 a).2.1 ≠ (TJ7 b).2.1 := by decide +kernel
theorem tyJ7_ok : ∀ k, k < 0 → parseFieldDescriptor (TJ7 k).2.2.1 = some (tyJ7 k) := by decide +kernel
abbrev cJ7_fill_031fb : ByteArray := prog_17_method_109_code
def yJ7_fill_031fb : MethodName := ⟨RJ7, "fill", "([BB)V"⟩
abbrev cJ7_copyOf_1904c : ByteArray := prog_17_method_119_code
def yJ7_copyOf_1904c : MethodName := ⟨RJ7, "copyOf", "([Ljava/lang/Object;I)[Ljava/lang/Object;"⟩
abbrev cJ7_copyOf_6403c : ByteArray := prog_17_method_120_code
def yJ7_copyOf_6403c : MethodName := ⟨RJ7, "copyOf", "([Ljava/lang/Object;ILjava/lang/Class;)[Ljava/lang/Object;"⟩
def RJx5ef63 : String := "java/util/Collection"
def TJx5ef63 : u_T := fun k => match k with
  | _ => ("", "", "", false)
def tyJx5ef63 : Nat → FieldType := fun k => match k with
  | _ => .int
abbrev wsJx5ef630 : List Cond := u_ws RJx5ef63 TJx5ef63 0
theorem nmJx5ef63 : ∀ a, a < 0 → ∀ b, b < 0 → a ≠ b → (TJx5ef63 a).2.1 ≠ (TJx5ef63 b).2.1 := by decide +kernel
theorem tyJx5ef63_ok : ∀ k, k < 0 → parseFieldDescriptor (TJx5ef63 k).2.2.1 = some (tyJx5ef63 k) := by decide +kernel
def RJxbd725 : String := "java/util/List"
def TJxbd725 : u_T := fun k => match k with
  | _ => ("", "", "", false)
def tyJxbd725 : Nat → FieldType := fun k => match k with
  | _ => .int
abbrev wsJxbd7250 : List Cond := u_ws RJxbd725 TJxbd725 0
theorem nmJxbd725 : ∀ a, a < 0 → ∀ b, b < 0 → a ≠ b → (TJxbd725 a).2.1 ≠ (TJxbd725 b).2.1 := by decide +kernel
theorem tyJxbd725_ok : ∀ k, k < 0 → parseFieldDescriptor (TJxbd725 k).2.2.1 = some (tyJxbd725 k) := by decide +kernel
def RJ15 : String := "java/util/Objects"
def TJ15 : u_T := fun k => match k with
  | _ => ("", "", "", false)
def tyJ15 : Nat → FieldType := fun k => match k with
  | _ => .int
abbrev wsJ150 : List Cond := u_ws RJ15 TJ15 0
theorem nmJ15 : ∀ a, a < 0 → ∀ b, b < 0 → a ≠ b → (TJ15 a).2.1 ≠ (TJ15 b).2.1 := by decide +kernel
theorem tyJ15_ok : ∀ k, k < 0 → parseFieldDescriptor (TJ15 k).2.2.1 = some (tyJ15 k) := by decide +kernel
abbrev cJ15_checkIndex_7cf53 : ByteArray := prog_20_method_17_code
def yJ15_checkIndex_7cf53 : MethodName := ⟨RJ15, "checkIndex", "(II)I"⟩
def RJxf0a74 : String := "java/util/RandomAccess"
def TJxf0a74 : u_T := fun k => match k with
  | _ => ("", "", "", false)
def tyJxf0a74 : Nat → FieldType := fun k => match k with
  | _ => .int
abbrev wsJxf0a740 : List Cond := u_ws RJxf0a74 TJxf0a74 0
theorem nmJxf0a74 : ∀ a, a < 0 → ∀ b, b < 0 → a ≠ b → (TJxf0a74 a).2.1 ≠ (TJxf0a74 b).2.1 := by decide +kernel
theorem tyJxf0a74_ok : ∀ k, k < 0 → parseFieldDescriptor (TJxf0a74 k).2.2.1 = some (tyJxf0a74 k) := by decide +kernel
def RJxa66e6 : String := "java/util/SequencedCollection"
def TJxa66e6 : u_T := fun k => match k with
  | _ => ("", "", "", false)
def tyJxa66e6 : Nat → FieldType := fun k => match k with
  | _ => .int
abbrev wsJxa66e60 : List Cond := u_ws RJxa66e6 TJxa66e6 0
theorem nmJxa66e6 : ∀ a, a < 0 → ∀ b, b < 0 → a ≠ b → (TJxa66e6 a).2.1 ≠ (TJxa66e6 b).2.1 := by decide +kernel
theorem tyJxa66e6_ok : ∀ k, k < 0 → parseFieldDescriptor (TJxa66e6 k).2.2.1 = some (tyJxa66e6 k) := by decide +kernel
def RJ8 : String := "jdk/internal/util/ArraysSupport"
def TJ8 : u_T := fun k => match k with
  | _ => ("", "", "", false)
def tyJ8 : Nat → FieldType := fun k => match k with
  | _ => .int
abbrev wsJ80 : List Cond := u_ws RJ8 TJ8 0
theorem nmJ8 : ∀ a, a < 0 → ∀ b, b < 0 → a ≠ b → (TJ8 a).2.1 ≠ (TJ8 b).2.1 := by decide +kernel
theorem tyJ8_ok : ∀ k, k < 0 → parseFieldDescriptor (TJ8 k).2.2.1 = some (tyJ8 k) := by decide +kernel
abbrev cJ8_newLength_cabcc : ByteArray := prog_23_method_27_code
def yJ8_newLength_cabcc : MethodName := ⟨RJ8, "newLength", "(III)I"⟩
abbrev cJ8_hugeLength_7cf53 : ByteArray := prog_23_method_28_code
def yJ8_hugeLength_7cf53 : MethodName := ⟨RJ8, "hugeLength", "(II)I"⟩
def RJ3 : String := "jdk/internal/util/Preconditions"
def TJ3 : u_T := fun k => match k with
  | _ => ("", "", "", false)
def tyJ3 : Nat → FieldType := fun k => match k with
  | _ => .int
abbrev wsJ30 : List Cond := u_ws RJ3 TJ3 0
theorem nmJ3 : ∀ a, a < 0 → ∀ b, b < 0 → a ≠ b → (TJ3 a).2.1 ≠ (TJ3 b).2.1 := by decide +kernel
theorem tyJ3_ok : ∀ k, k < 0 → parseFieldDescriptor (TJ3 k).2.2.1 = some (tyJ3 k) := by decide +kernel
abbrev cJ3_checkIndex_8e157 : ByteArray := prog_24_method_11_code
def yJ3_checkIndex_8e157 : MethodName := ⟨RJ3, "checkIndex", "(IILjava/util/function/BiFunction;)I"⟩
def RL : String := "TeaRaceLaw"
abbrev cL_law : ByteArray := code
def yL_law : MethodName := ⟨RL, "law", "([I)Z"⟩
def wsX0_init : List Cond := .code yX0_init cX0_init 7 none :: ([.methodLink RX0 3 objectInit, .instanceMethod objectInit, .code objectInit ⟨#[0xb1]⟩ 1 none, .fieldLink RX0 9 "TeaRace$Order" "west" "I", .fieldLink RX0 15 "TeaRace$Order" "east" "I", .fieldLink RX0 18 "TeaRace$Order" "north" "I", .fieldLink RX0 21 "TeaRace$Order" "south" "I", .fieldLink RX0 24 "TeaRace$Order" "strength" "I", .fieldLink RX0 27 "TeaRace$Order" "way" "I"] ++ wsX00)
def wsX0_fits : List Cond := .code yX0_fits cX0_fits 5 (some .boolean) :: ([.fieldLink RX0 9 "TeaRace$Order" "west" "I", .fieldLink RX0 15 "TeaRace$Order" "east" "I", .fieldLink RX0 18 "TeaRace$Order" "north" "I", .fieldLink RX0 21 "TeaRace$Order" "south" "I", .fieldLink RX0 24 "TeaRace$Order" "strength" "I"] ++ wsX00)
def wsX1_init : List Cond := .code yX1_init cX1_init 1 none :: ([.methodLink RX1 3 objectInit, .instanceMethod objectInit, .code objectInit ⟨#[0xb1]⟩ 1 none, .arrayClass .int, .fieldLink RX1 9 "TeaRace$Passage" "hoursTo" "[I", .arrayClass .boolean, .fieldLink RX1 15 "TeaRace$Passage" "departed" "[Z"] ++ wsX10)
def wsX5_outside : List Cond := .code yX5_outside cX5_outside 2 (some .boolean) :: ([])
def wsX1_earliestCell : List Cond := .code yX1_earliestCell cX1_earliestCell 4 (some .int) :: ([.fieldLink RX1 15 "TeaRace$Passage" "departed" "[Z", .fieldLink RX1 9 "TeaRace$Passage" "hoursTo" "[I"] ++ wsX10)
def wsX2_isLand : List Cond := .code yX2_isLand cX2_isLand 2 (some .boolean) :: ([.fieldLink RX2 9 "TeaRace$Sea" "landCells" "[Z", .static yX5_outside, .initialized RX5, .code yX5_outside cX5_outside 2 (some .boolean)] ++ wsX20)
def wsX2_nextCell : List Cond := .code yX2_nextCell cX2_nextCell 6 (some .int) :: ([.static yX5_outside, .initialized RX5, .code yX5_outside cX5_outside 2 (some .boolean), .methodLink RX2 50 yX2_isLand, .instanceMethod yX2_isLand, .selects RX2 yX2_isLand yX2_isLand, .initialized RX2, .code yX2_isLand cX2_isLand 2 (some .boolean), .fieldLink RX2 9 "TeaRace$Sea" "landCells" "[Z"] ++ wsX20)
def wsX5_needOf : List Cond := .code yX5_needOf cX5_needOf 1 (some .int) :: ([])
def wsJ9_floorMod_7cf53 : List Cond := .code yJ9_floorMod_7cf53 cJ9_floorMod_7cf53 3 (some .int) :: ([])
def wsX5_monthOf : List Cond := .code yX5_monthOf cX5_monthOf 1 (some .int) :: ([.methodLink RX5 259 yJ9_floorMod_7cf53, .static yJ9_floorMod_7cf53, .initialized RJ9, .code yJ9_floorMod_7cf53 cJ9_floorMod_7cf53 3 (some .int)])
def wsX2_windIn : List Cond := .code yX2_windIn cX2_windIn 4 (some .int) :: ([.fieldLink RX2 15 "TeaRace$Sea" "chartThere" "[Z", .fieldLink RX2 20 "TeaRace$Sea" "charts" "[[B", .static yX5_outside, .initialized RX5, .code yX5_outside cX5_outside 2 (some .boolean)] ++ wsX20)
def wsX5_eighthsBetween : List Cond := .code yX5_eighthsBetween cX5_eighthsBetween 3 (some .int) :: ([.methodLink RX5 251 Lib.Math.abs.name, .static Lib.Math.abs.name, .initialized "java/lang/Math", .code Lib.Math.abs.name Lib.Math.abs.code 1 (some .int), .methodLink RX5 256 Lib.Math.min.name, .static Lib.Math.min.name, .code Lib.Math.min.name Lib.Math.min.code 2 (some .int)])
def wsX5_strengthOf : List Cond := .code yX5_strengthOf cX5_strengthOf 1 (some .int) :: ([])
def wsX3_moreAcrossTheWind : List Cond := .code yX3_moreAcrossTheWind cX3_moreAcrossTheWind 1 (some .int) :: ([.fieldLink RX3 49 "TeaRace$Ship" "kind" "I"] ++ wsX30)
def wsX3_sailSpeed : List Cond := .code yX3_sailSpeed cX3_sailSpeed 3 (some .int) :: ([.methodLink RX3 74 yX3_moreAcrossTheWind, .instanceMethod yX3_moreAcrossTheWind, .selects RX3 yX3_moreAcrossTheWind yX3_moreAcrossTheWind, .initialized RX3, .code yX3_moreAcrossTheWind cX3_moreAcrossTheWind 1 (some .int), .fieldLink RX3 49 "TeaRace$Ship" "kind" "I"] ++ wsX30)
def wsX3_speedIn_r1 : List Cond := [Cond.fieldLink RX3 49 "TeaRace$Ship" "kind" "I", Cond.fieldLink RX3 28 "TeaRace$Ship" "foulness" "I", Cond.methodLink RX3 69 Lib.Math.max.name, Cond.static Lib.Math.max.name, Cond.initialized "java/lang/Math", Cond.code Lib.Math.max.name Lib.Math.max.code 2 (some .int), Cond.static yX5_eighthsBetween, Cond.initialized RX5, Cond.code yX5_eighthsBetween cX5_eighthsBetween 3 (some .int), Cond.methodLink RX5 251 Lib.Math.abs.name, Cond.static Lib.Math.abs.name, Cond.code Lib.Math.abs.name Lib.Math.abs.code 1 (some .int), Cond.methodLink RX5 256 Lib.Math.min.name, Cond.static Lib.Math.min.name, Cond.code Lib.Math.min.name Lib.Math.min.code 2 (some .int), Cond.static yX5_strengthOf, Cond.code yX5_strengthOf cX5_strengthOf 1 (some .int), Cond.methodLink RX3 66 yX3_sailSpeed, Cond.instanceMethod yX3_sailSpeed, Cond.selects RX3 yX3_sailSpeed yX3_sailSpeed, Cond.initialized RX3, Cond.code yX3_sailSpeed cX3_sailSpeed 3 (some .int), Cond.methodLink RX3 74 yX3_moreAcrossTheWind, Cond.instanceMethod yX3_moreAcrossTheWind]
def wsX3_speedIn_r2 : List Cond := [Cond.selects RX3 yX3_moreAcrossTheWind yX3_moreAcrossTheWind, Cond.code yX3_moreAcrossTheWind cX3_moreAcrossTheWind 1 (some .int)]
def wsX3_speedIn : List Cond := .code yX3_speedIn cX3_speedIn 4 (some .int) :: ((wsX3_speedIn_r1 ++ wsX3_speedIn_r2) ++ wsX30)
def wsX1_hoursFor : List Cond := .code yX1_hoursFor cX1_hoursFor 2 (some .int) :: ([])
def wsX1_comingHour_r1 : List Cond := [Cond.methodLink RX1 49 Lib.Math.max.name, Cond.static Lib.Math.max.name, Cond.initialized "java/lang/Math", Cond.code Lib.Math.max.name Lib.Math.max.code 2 (some .int), Cond.static yX5_needOf, Cond.initialized RX5, Cond.code yX5_needOf cX5_needOf 1 (some .int), Cond.static yX5_monthOf, Cond.code yX5_monthOf cX5_monthOf 1 (some .int), Cond.methodLink RX5 259 yJ9_floorMod_7cf53, Cond.static yJ9_floorMod_7cf53, Cond.initialized RJ9, Cond.code yJ9_floorMod_7cf53 cJ9_floorMod_7cf53 3 (some .int), Cond.methodLink RX1 57 yX2_windIn, Cond.instanceMethod yX2_windIn, Cond.selects RX2 yX2_windIn yX2_windIn, Cond.initialized RX2, Cond.code yX2_windIn cX2_windIn 4 (some .int), Cond.fieldLink RX2 15 "TeaRace$Sea" "chartThere" "[Z", Cond.fieldLink RX2 20 "TeaRace$Sea" "charts" "[[B", Cond.static yX5_outside, Cond.code yX5_outside cX5_outside 2 (some .boolean), Cond.methodLink RX1 60 yX3_speedIn, Cond.instanceMethod yX3_speedIn]
def wsX1_comingHour_r2 : List Cond := [Cond.selects RX3 yX3_speedIn yX3_speedIn, Cond.initialized RX3, Cond.code yX3_speedIn cX3_speedIn 4 (some .int), Cond.fieldLink RX3 49 "TeaRace$Ship" "kind" "I", Cond.fieldLink RX3 28 "TeaRace$Ship" "foulness" "I", Cond.methodLink RX3 69 Lib.Math.max.name, Cond.static yX5_eighthsBetween, Cond.code yX5_eighthsBetween cX5_eighthsBetween 3 (some .int), Cond.methodLink RX5 251 Lib.Math.abs.name, Cond.static Lib.Math.abs.name, Cond.code Lib.Math.abs.name Lib.Math.abs.code 1 (some .int), Cond.methodLink RX5 256 Lib.Math.min.name, Cond.static Lib.Math.min.name, Cond.code Lib.Math.min.name Lib.Math.min.code 2 (some .int), Cond.static yX5_strengthOf, Cond.code yX5_strengthOf cX5_strengthOf 1 (some .int), Cond.methodLink RX3 66 yX3_sailSpeed, Cond.instanceMethod yX3_sailSpeed, Cond.selects RX3 yX3_sailSpeed yX3_sailSpeed, Cond.code yX3_sailSpeed cX3_sailSpeed 3 (some .int), Cond.methodLink RX3 74 yX3_moreAcrossTheWind, Cond.instanceMethod yX3_moreAcrossTheWind, Cond.selects RX3 yX3_moreAcrossTheWind yX3_moreAcrossTheWind, Cond.code yX3_moreAcrossTheWind cX3_moreAcrossTheWind 1 (some .int)]
def wsX1_comingHour_r3 : List Cond := [Cond.methodLink RX1 65 yX1_hoursFor, Cond.static yX1_hoursFor, Cond.initialized RX1, Cond.code yX1_hoursFor cX1_hoursFor 2 (some .int)]
def wsX1_comingHour : List Cond := .code yX1_comingHour cX1_comingHour 11 (some .int) :: ((wsX1_comingHour_r1 ++ (wsX1_comingHour_r2 ++ wsX1_comingHour_r3)) ++ wsX20 ++ wsX30)
def wsX1_reach : List Cond := .code yX1_reach cX1_reach 3 none :: ([.fieldLink RX1 9 "TeaRace$Passage" "hoursTo" "[I", .static yX5_outside, .initialized RX5, .code yX5_outside cX5_outside 2 (some .boolean)] ++ wsX10)
def wsX1_leave_r1 : List Cond := [Cond.fieldLink RX1 15 "TeaRace$Passage" "departed" "[Z", Cond.fieldLink RX1 9 "TeaRace$Passage" "hoursTo" "[I", Cond.static yX5_outside, Cond.initialized RX5, Cond.code yX5_outside cX5_outside 2 (some .boolean), Cond.methodLink RX1 31 yX2_nextCell, Cond.instanceMethod yX2_nextCell, Cond.selects RX2 yX2_nextCell yX2_nextCell, Cond.initialized RX2, Cond.code yX2_nextCell cX2_nextCell 6 (some .int), Cond.methodLink RX2 50 yX2_isLand, Cond.instanceMethod yX2_isLand, Cond.selects RX2 yX2_isLand yX2_isLand, Cond.code yX2_isLand cX2_isLand 2 (some .boolean), Cond.fieldLink RX2 9 "TeaRace$Sea" "landCells" "[Z", Cond.methodLink RX1 37 yX1_comingHour, Cond.static yX1_comingHour, Cond.initialized RX1, Cond.code yX1_comingHour cX1_comingHour 11 (some .int), Cond.methodLink RX1 49 Lib.Math.max.name, Cond.static Lib.Math.max.name, Cond.initialized "java/lang/Math", Cond.code Lib.Math.max.name Lib.Math.max.code 2 (some .int), Cond.static yX5_needOf]
def wsX1_leave_r2 : List Cond := [Cond.code yX5_needOf cX5_needOf 1 (some .int), Cond.static yX5_monthOf, Cond.code yX5_monthOf cX5_monthOf 1 (some .int), Cond.methodLink RX5 259 yJ9_floorMod_7cf53, Cond.static yJ9_floorMod_7cf53, Cond.initialized RJ9, Cond.code yJ9_floorMod_7cf53 cJ9_floorMod_7cf53 3 (some .int), Cond.methodLink RX1 57 yX2_windIn, Cond.instanceMethod yX2_windIn, Cond.selects RX2 yX2_windIn yX2_windIn, Cond.code yX2_windIn cX2_windIn 4 (some .int), Cond.fieldLink RX2 15 "TeaRace$Sea" "chartThere" "[Z", Cond.fieldLink RX2 20 "TeaRace$Sea" "charts" "[[B", Cond.methodLink RX1 60 yX3_speedIn, Cond.instanceMethod yX3_speedIn, Cond.selects RX3 yX3_speedIn yX3_speedIn, Cond.initialized RX3, Cond.code yX3_speedIn cX3_speedIn 4 (some .int), Cond.fieldLink RX3 49 "TeaRace$Ship" "kind" "I", Cond.fieldLink RX3 28 "TeaRace$Ship" "foulness" "I", Cond.methodLink RX3 69 Lib.Math.max.name, Cond.static yX5_eighthsBetween, Cond.code yX5_eighthsBetween cX5_eighthsBetween 3 (some .int), Cond.methodLink RX5 251 Lib.Math.abs.name]
def wsX1_leave_r3 : List Cond := [Cond.static Lib.Math.abs.name, Cond.code Lib.Math.abs.name Lib.Math.abs.code 1 (some .int), Cond.methodLink RX5 256 Lib.Math.min.name, Cond.static Lib.Math.min.name, Cond.code Lib.Math.min.name Lib.Math.min.code 2 (some .int), Cond.static yX5_strengthOf, Cond.code yX5_strengthOf cX5_strengthOf 1 (some .int), Cond.methodLink RX3 66 yX3_sailSpeed, Cond.instanceMethod yX3_sailSpeed, Cond.selects RX3 yX3_sailSpeed yX3_sailSpeed, Cond.code yX3_sailSpeed cX3_sailSpeed 3 (some .int), Cond.methodLink RX3 74 yX3_moreAcrossTheWind, Cond.instanceMethod yX3_moreAcrossTheWind, Cond.selects RX3 yX3_moreAcrossTheWind yX3_moreAcrossTheWind, Cond.code yX3_moreAcrossTheWind cX3_moreAcrossTheWind 1 (some .int), Cond.methodLink RX1 65 yX1_hoursFor, Cond.static yX1_hoursFor, Cond.code yX1_hoursFor cX1_hoursFor 2 (some .int), Cond.methodLink RX1 41 yX1_reach, Cond.instanceMethod yX1_reach, Cond.selects RX1 yX1_reach yX1_reach, Cond.code yX1_reach cX1_reach 3 none]
def wsX1_leave : List Cond := .code yX1_leave cX1_leave 8 none :: ((wsX1_leave_r1 ++ (wsX1_leave_r2 ++ wsX1_leave_r3)) ++ wsX10 ++ wsX20 ++ wsX30)
def wsX1_leastHours_r1 : List Cond := [Cond.fieldLink RX1 9 "TeaRace$Passage" "hoursTo" "[I", Cond.fieldLink RX1 15 "TeaRace$Passage" "departed" "[Z", Cond.static yX5_outside, Cond.initialized RX5, Cond.code yX5_outside cX5_outside 2 (some .boolean), Cond.methodLink RX1 23 yX1_earliestCell, Cond.instanceMethod yX1_earliestCell, Cond.selects RX1 yX1_earliestCell yX1_earliestCell, Cond.initialized RX1, Cond.code yX1_earliestCell cX1_earliestCell 4 (some .int), Cond.methodLink RX1 27 yX1_leave, Cond.instanceMethod yX1_leave, Cond.selects RX1 yX1_leave yX1_leave, Cond.code yX1_leave cX1_leave 8 none, Cond.methodLink RX1 31 yX2_nextCell, Cond.instanceMethod yX2_nextCell, Cond.selects RX2 yX2_nextCell yX2_nextCell, Cond.initialized RX2, Cond.code yX2_nextCell cX2_nextCell 6 (some .int), Cond.methodLink RX2 50 yX2_isLand, Cond.instanceMethod yX2_isLand, Cond.selects RX2 yX2_isLand yX2_isLand, Cond.code yX2_isLand cX2_isLand 2 (some .boolean), Cond.fieldLink RX2 9 "TeaRace$Sea" "landCells" "[Z"]
def wsX1_leastHours_r2 : List Cond := [Cond.methodLink RX1 37 yX1_comingHour, Cond.static yX1_comingHour, Cond.code yX1_comingHour cX1_comingHour 11 (some .int), Cond.methodLink RX1 49 Lib.Math.max.name, Cond.static Lib.Math.max.name, Cond.initialized "java/lang/Math", Cond.code Lib.Math.max.name Lib.Math.max.code 2 (some .int), Cond.static yX5_needOf, Cond.code yX5_needOf cX5_needOf 1 (some .int), Cond.static yX5_monthOf, Cond.code yX5_monthOf cX5_monthOf 1 (some .int), Cond.methodLink RX5 259 yJ9_floorMod_7cf53, Cond.static yJ9_floorMod_7cf53, Cond.initialized RJ9, Cond.code yJ9_floorMod_7cf53 cJ9_floorMod_7cf53 3 (some .int), Cond.methodLink RX1 57 yX2_windIn, Cond.instanceMethod yX2_windIn, Cond.selects RX2 yX2_windIn yX2_windIn, Cond.code yX2_windIn cX2_windIn 4 (some .int), Cond.fieldLink RX2 15 "TeaRace$Sea" "chartThere" "[Z", Cond.fieldLink RX2 20 "TeaRace$Sea" "charts" "[[B", Cond.methodLink RX1 60 yX3_speedIn, Cond.instanceMethod yX3_speedIn, Cond.selects RX3 yX3_speedIn yX3_speedIn]
def wsX1_leastHours_r3 : List Cond := [Cond.initialized RX3, Cond.code yX3_speedIn cX3_speedIn 4 (some .int), Cond.fieldLink RX3 49 "TeaRace$Ship" "kind" "I", Cond.fieldLink RX3 28 "TeaRace$Ship" "foulness" "I", Cond.methodLink RX3 69 Lib.Math.max.name, Cond.static yX5_eighthsBetween, Cond.code yX5_eighthsBetween cX5_eighthsBetween 3 (some .int), Cond.methodLink RX5 251 Lib.Math.abs.name, Cond.static Lib.Math.abs.name, Cond.code Lib.Math.abs.name Lib.Math.abs.code 1 (some .int), Cond.methodLink RX5 256 Lib.Math.min.name, Cond.static Lib.Math.min.name, Cond.code Lib.Math.min.name Lib.Math.min.code 2 (some .int), Cond.static yX5_strengthOf, Cond.code yX5_strengthOf cX5_strengthOf 1 (some .int), Cond.methodLink RX3 66 yX3_sailSpeed, Cond.instanceMethod yX3_sailSpeed, Cond.selects RX3 yX3_sailSpeed yX3_sailSpeed, Cond.code yX3_sailSpeed cX3_sailSpeed 3 (some .int), Cond.methodLink RX3 74 yX3_moreAcrossTheWind, Cond.instanceMethod yX3_moreAcrossTheWind, Cond.selects RX3 yX3_moreAcrossTheWind yX3_moreAcrossTheWind, Cond.code yX3_moreAcrossTheWind cX3_moreAcrossTheWind 1 (some .int), Cond.methodLink RX1 65 yX1_hoursFor]
def wsX1_leastHours_r4 : List Cond := [Cond.static yX1_hoursFor, Cond.code yX1_hoursFor cX1_hoursFor 2 (some .int), Cond.methodLink RX1 41 yX1_reach, Cond.instanceMethod yX1_reach, Cond.selects RX1 yX1_reach yX1_reach, Cond.code yX1_reach cX1_reach 3 none]
def wsX1_leastHours : List Cond := .code yX1_leastHours cX1_leastHours 8 (some .int) :: ((wsX1_leastHours_r1 ++ (wsX1_leastHours_r2 ++ (wsX1_leastHours_r3 ++ wsX1_leastHours_r4))) ++ wsX10 ++ wsX20 ++ wsX30)
def wsX2_init : List Cond := .code yX2_init cX2_init 1 none :: ([.methodLink RX2 3 objectInit, .instanceMethod objectInit, .code objectInit ⟨#[0xb1]⟩ 1 none, .arrayClass .boolean, .fieldLink RX2 9 "TeaRace$Sea" "landCells" "[Z", .fieldLink RX2 15 "TeaRace$Sea" "chartThere" "[Z", .classLink RX2 18 "[[B", .arrayClass .byte, .fieldLink RX2 20 "TeaRace$Sea" "charts" "[[B"] ++ wsX20)
def wsX2_setLand : List Cond := .code yX2_setLand cX2_setLand 3 none :: ([.fieldLink RX2 9 "TeaRace$Sea" "landCells" "[Z", .static yX5_outside, .initialized RX5, .code yX5_outside cX5_outside 2 (some .boolean)] ++ wsX20)
def wsX2_hasChart : List Cond := .code yX2_hasChart cX2_hasChart 2 (some .boolean) :: ([.fieldLink RX2 15 "TeaRace$Sea" "chartThere" "[Z", .static yX5_outside, .initialized RX5, .code yX5_outside cX5_outside 2 (some .boolean)] ++ wsX20)
def wsX2_chartsThere : List Cond := .code yX2_chartsThere cX2_chartsThere 3 (some .int) :: ([.fieldLink RX2 15 "TeaRace$Sea" "chartThere" "[Z"] ++ wsX20)
def wsJ7_fill_031fb : List Cond := .code yJ7_fill_031fb cJ7_fill_031fb 4 none :: ([])
def wsX2_drawCalm : List Cond := .code yX2_drawCalm cX2_drawCalm 2 none :: ([.fieldLink RX2 15 "TeaRace$Sea" "chartThere" "[Z", .fieldLink RX2 20 "TeaRace$Sea" "charts" "[[B", .static yX5_outside, .initialized RX5, .code yX5_outside cX5_outside 2 (some .boolean), .methodLink RX2 27 yJ7_fill_031fb, .static yJ7_fill_031fb, .initialized RJ7, .code yJ7_fill_031fb cJ7_fill_031fb 4 none] ++ wsX20)
def wsX2_loseChart : List Cond := .code yX2_loseChart cX2_loseChart 2 none :: ([.fieldLink RX2 15 "TeaRace$Sea" "chartThere" "[Z", .static yX5_outside, .initialized RX5, .code yX5_outside cX5_outside 2 (some .boolean)] ++ wsX20)
def wsX2_drawnAt : List Cond := .code yX2_drawnAt cX2_drawnAt 3 (some .int) :: ([.fieldLink RX2 20 "TeaRace$Sea" "charts" "[[B", .methodLink RX2 33 yX2_hasChart, .instanceMethod yX2_hasChart, .selects RX2 yX2_hasChart yX2_hasChart, .initialized RX2, .code yX2_hasChart cX2_hasChart 2 (some .boolean), .fieldLink RX2 15 "TeaRace$Sea" "chartThere" "[Z", .static yX5_outside, .initialized RX5, .code yX5_outside cX5_outside 2 (some .boolean)] ++ wsX20)
def wsX2_drawAt : List Cond := .code yX2_drawAt cX2_drawAt 4 none :: ([.fieldLink RX2 20 "TeaRace$Sea" "charts" "[[B", .methodLink RX2 33 yX2_hasChart, .instanceMethod yX2_hasChart, .selects RX2 yX2_hasChart yX2_hasChart, .initialized RX2, .code yX2_hasChart cX2_hasChart 2 (some .boolean), .fieldLink RX2 15 "TeaRace$Sea" "chartThere" "[Z", .static yX5_outside, .initialized RX5, .code yX5_outside cX5_outside 2 (some .boolean)] ++ wsX20)
def wsX2_copyChart : List Cond := .code yX2_copyChart cX2_copyChart 6 none :: ([.fieldLink RX2 20 "TeaRace$Sea" "charts" "[[B", .methodLink RX2 37 arraycopyName, .native arraycopyName, .static arraycopyName, .initialized "java/lang/System", .methodLink RX2 33 yX2_hasChart, .instanceMethod yX2_hasChart, .selects RX2 yX2_hasChart yX2_hasChart, .initialized RX2, .code yX2_hasChart cX2_hasChart 2 (some .boolean), .fieldLink RX2 15 "TeaRace$Sea" "chartThere" "[Z", .static yX5_outside, .initialized RX5, .code yX5_outside cX5_outside 2 (some .boolean)] ++ wsX20)
def wsX2_digestChart : List Cond := .code yX2_digestChart cX2_digestChart 7 (some .long) :: ([.constantLong RX2 53 (31), .methodLink RX2 33 yX2_hasChart, .instanceMethod yX2_hasChart, .selects RX2 yX2_hasChart yX2_hasChart, .initialized RX2, .code yX2_hasChart cX2_hasChart 2 (some .boolean), .fieldLink RX2 15 "TeaRace$Sea" "chartThere" "[Z", .static yX5_outside, .initialized RX5, .code yX5_outside cX5_outside 2 (some .boolean), .methodLink RX2 55 yX2_drawnAt, .instanceMethod yX2_drawnAt, .selects RX2 yX2_drawnAt yX2_drawnAt, .code yX2_drawnAt cX2_drawnAt 3 (some .int), .fieldLink RX2 20 "TeaRace$Sea" "charts" "[[B"] ++ wsX20)
def wsJxa1e45_init_da8c8 : List Cond := .code yJxa1e45_init_da8c8 cJxa1e45_init_da8c8 1 none :: ([.methodLink RJxa1e45 1 objectInit, .instanceMethod objectInit, .code objectInit ⟨#[0xb1]⟩ 1 none])
def wsJxc12de_init_da8c8 : List Cond := .code yJxc12de_init_da8c8 cJxc12de_init_da8c8 1 none :: ([.fieldLink RJxc12de 7 "java/util/AbstractList" "modCount" "I", .methodLink RJxc12de 1 yJxa1e45_init_da8c8, .instanceMethod yJxa1e45_init_da8c8, .initialized RJxa1e45, .code yJxa1e45_init_da8c8 cJxa1e45_init_da8c8 1 none, .methodLink RJxa1e45 1 objectInit, .instanceMethod objectInit, .code objectInit ⟨#[0xb1]⟩ 1 none] ++ wsJx4a65c0)
def wsJx4a65c_init_da8c8 : List Cond := .code yJx4a65c_init_da8c8 cJx4a65c_init_da8c8 1 none :: ([.fieldLink RJx4a65c 39 "java/util/ArrayList" "DEFAULTCAPACITY_EMPTY_ELEMENTDATA" "[Ljava/lang/Object;", .fieldLink RJx4a65c 9 "java/util/ArrayList" "elementData" "[Ljava/lang/Object;", .methodLink RJx4a65c 1 yJxc12de_init_da8c8, .instanceMethod yJxc12de_init_da8c8, .initialized RJxc12de, .code yJxc12de_init_da8c8 cJxc12de_init_da8c8 1 none, .fieldLink RJxc12de 7 "java/util/AbstractList" "modCount" "I", .methodLink RJxc12de 1 yJxa1e45_init_da8c8, .instanceMethod yJxa1e45_init_da8c8, .initialized RJxa1e45, .code yJxa1e45_init_da8c8 cJxa1e45_init_da8c8 1 none, .methodLink RJxa1e45 1 objectInit, .instanceMethod objectInit, .code objectInit ⟨#[0xb1]⟩ 1 none] ++ wsJx4a65c0)
def wsX3_init_r1 : List Cond := [Cond.methodLink RX3 3 objectInit, Cond.instanceMethod objectInit, Cond.code objectInit ⟨#[0xb1]⟩ 1 none, Cond.classLink RX3 9 RJx4a65c, Cond.instantiable RJx4a65c 3, Cond.initialized RJx4a65c, Cond.fieldLink RX3 12 "TeaRace$Ship" "orders" "Ljava/util/List;", Cond.fieldLink RX3 18 "TeaRace$Ship" "sights" "Ljava/util/List;", Cond.fieldLink RX3 21 "TeaRace$Ship" "gone" "I", Cond.fieldLink RX3 25 "TeaRace$Ship" "way" "I", Cond.fieldLink RX3 28 "TeaRace$Ship" "foulness" "I", Cond.fieldLink RX3 31 "TeaRace$Ship" "cellsComeTo" "I", Cond.fieldLink RX3 34 "TeaRace$Ship" "homeHour" "I", Cond.fieldLink RX3 37 "TeaRace$Ship" "entry" "I", Cond.fieldLink RX3 40 "TeaRace$Ship" "rate" "I", Cond.fieldLink RX3 43 "TeaRace$Ship" "premium" "I", Cond.fieldLink RX3 46 "TeaRace$Ship" "number" "I", Cond.fieldLink RX3 49 "TeaRace$Ship" "kind" "I", Cond.fieldLink RX3 52 "TeaRace$Ship" "cell" "I", Cond.fieldLink RX3 55 "TeaRace$Ship" "chests" "I", Cond.methodLink RX3 11 yJx4a65c_init_da8c8, Cond.instanceMethod yJx4a65c_init_da8c8, Cond.code yJx4a65c_init_da8c8 cJx4a65c_init_da8c8 1 none, Cond.fieldLink RJx4a65c 39 "java/util/ArrayList" "DEFAULTCAPACITY_EMPTY_ELEMENTDATA" "[Ljava/lang/Object;"]
def wsX3_init_r2 : List Cond := [Cond.fieldLink RJx4a65c 9 "java/util/ArrayList" "elementData" "[Ljava/lang/Object;", Cond.methodLink RJx4a65c 1 yJxc12de_init_da8c8, Cond.instanceMethod yJxc12de_init_da8c8, Cond.initialized RJxc12de, Cond.code yJxc12de_init_da8c8 cJxc12de_init_da8c8 1 none, Cond.fieldLink RJxc12de 7 "java/util/AbstractList" "modCount" "I", Cond.methodLink RJxc12de 1 yJxa1e45_init_da8c8, Cond.instanceMethod yJxa1e45_init_da8c8, Cond.initialized RJxa1e45, Cond.code yJxa1e45_init_da8c8 cJxa1e45_init_da8c8 1 none, Cond.methodLink RJxa1e45 1 objectInit]
def wsX3_init : List Cond := .code yX3_init cX3_init 5 none :: ((wsX3_init_r1 ++ wsX3_init_r2) ++ wsJx4a65c0 ++ wsX30)
def wsX3_isHome : List Cond := .code yX3_isHome cX3_isHome 1 (some .boolean) :: ([.fieldLink RX3 34 "TeaRace$Ship" "homeHour" "I"] ++ wsX30)
def wsX3_isOf : List Cond := .code yX3_isOf cX3_isOf 2 (some .boolean) :: ([.fieldLink RX3 49 "TeaRace$Ship" "kind" "I"] ++ wsX30)
def wsJx4a65c_size_8abf5 : List Cond := .code yJx4a65c_size_8abf5 cJx4a65c_size_8abf5 1 (some .int) :: ([.fieldLink RJx4a65c 48 "java/util/ArrayList" "size" "I"] ++ wsJx4a65c0)
def wsJ3_checkIndex_8e157 : List Cond := .code yJ3_checkIndex_8e157 cJ3_checkIndex_8e157 3 (some .int) :: ([])
def wsJ15_checkIndex_7cf53 : List Cond := .code yJ15_checkIndex_7cf53 cJ15_checkIndex_7cf53 2 (some .int) :: ([.methodLink RJ15 105 yJ3_checkIndex_8e157, .static yJ3_checkIndex_8e157, .initialized RJ3, .code yJ3_checkIndex_8e157 cJ3_checkIndex_8e157 3 (some .int)])
def wsJx4a65c_elementData_915e3 : List Cond := .code yJx4a65c_elementData_915e3 cJx4a65c_elementData_915e3 2 (some (.object "java/lang/Object")) :: ([.fieldLink RJx4a65c 9 "java/util/ArrayList" "elementData" "[Ljava/lang/Object;"] ++ wsJx4a65c0)
def wsJx4a65c_get_915e3 : List Cond := .code yJx4a65c_get_915e3 cJx4a65c_get_915e3 2 (some (.object "java/lang/Object")) :: ([.fieldLink RJx4a65c 48 "java/util/ArrayList" "size" "I", .methodLink RJx4a65c 118 yJ15_checkIndex_7cf53, .static yJ15_checkIndex_7cf53, .initialized RJ15, .code yJ15_checkIndex_7cf53 cJ15_checkIndex_7cf53 2 (some .int), .methodLink RJ15 105 yJ3_checkIndex_8e157, .static yJ3_checkIndex_8e157, .initialized RJ3, .code yJ3_checkIndex_8e157 cJ3_checkIndex_8e157 3 (some .int), .methodLink RJx4a65c 123 yJx4a65c_elementData_915e3, .instanceMethod yJx4a65c_elementData_915e3, .selects RJx4a65c yJx4a65c_elementData_915e3 yJx4a65c_elementData_915e3, .initialized RJx4a65c, .code yJx4a65c_elementData_915e3 cJx4a65c_elementData_915e3 2 (some (.object "java/lang/Object")), .fieldLink RJx4a65c 9 "java/util/ArrayList" "elementData" "[Ljava/lang/Object;"] ++ wsJx4a65c0)
def wsX3_askWay_r1 : List Cond := [Cond.fieldLink RX3 12 "TeaRace$Ship" "orders" "Ljava/util/List;", Cond.classLink RX3 87 "TeaRace$Order", Cond.fieldLink RX3 52 "TeaRace$Ship" "cell" "I", Cond.fieldLink RX3 93 "TeaRace$Order" "way" "I", Cond.fieldLink RX3 25 "TeaRace$Ship" "way" "I", Cond.methodLink RX3 78 ⟨"java/util/List", "size", "()I"⟩, Cond.selects RJx4a65c ⟨"java/util/List", "size", "()I"⟩ yJx4a65c_size_8abf5, Cond.instanceMethod yJx4a65c_size_8abf5, Cond.initialized RJx4a65c, Cond.code yJx4a65c_size_8abf5 cJx4a65c_size_8abf5 1 (some .int), Cond.fieldLink RJx4a65c 48 "java/util/ArrayList" "size" "I", Cond.methodLink RX3 83 ⟨"java/util/List", "get", "(I)Ljava/lang/Object;"⟩, Cond.selects RJx4a65c ⟨"java/util/List", "get", "(I)Ljava/lang/Object;"⟩ yJx4a65c_get_915e3, Cond.instanceMethod yJx4a65c_get_915e3, Cond.code yJx4a65c_get_915e3 cJx4a65c_get_915e3 2 (some (.object "java/lang/Object")), Cond.methodLink RJx4a65c 118 yJ15_checkIndex_7cf53, Cond.static yJ15_checkIndex_7cf53, Cond.initialized RJ15, Cond.code yJ15_checkIndex_7cf53 cJ15_checkIndex_7cf53 2 (some .int), Cond.methodLink RJ15 105 yJ3_checkIndex_8e157, Cond.static yJ3_checkIndex_8e157, Cond.initialized RJ3, Cond.code yJ3_checkIndex_8e157 cJ3_checkIndex_8e157 3 (some .int), Cond.methodLink RJx4a65c 123 yJx4a65c_elementData_915e3]
def wsX3_askWay_r2 : List Cond := [Cond.instanceMethod yJx4a65c_elementData_915e3, Cond.selects RJx4a65c yJx4a65c_elementData_915e3 yJx4a65c_elementData_915e3, Cond.code yJx4a65c_elementData_915e3 cJx4a65c_elementData_915e3 2 (some (.object "java/lang/Object")), Cond.fieldLink RJx4a65c 9 "java/util/ArrayList" "elementData" "[Ljava/lang/Object;", Cond.static yX5_strengthOf, Cond.initialized RX5, Cond.code yX5_strengthOf cX5_strengthOf 1 (some .int), Cond.methodLink RX3 89 yX0_fits, Cond.instanceMethod yX0_fits, Cond.selects RX0 yX0_fits yX0_fits, Cond.initialized RX0, Cond.code yX0_fits cX0_fits 5 (some .boolean), Cond.fieldLink RX0 9 "TeaRace$Order" "west" "I", Cond.fieldLink RX0 15 "TeaRace$Order" "east" "I", Cond.fieldLink RX0 18 "TeaRace$Order" "north" "I", Cond.fieldLink RX0 21 "TeaRace$Order" "south" "I", Cond.fieldLink RX0 24 "TeaRace$Order" "strength" "I"]
def wsX3_askWay : List Cond := .code yX3_askWay cX3_askWay 4 none :: ((wsX3_askWay_r1 ++ wsX3_askWay_r2) ++ wsX30 ++ wsX00 ++ wsJx4a65c0)
def wsX3_beats : List Cond := .code yX3_beats cX3_beats 2 (some .boolean) :: ([.fieldLink RX3 37 "TeaRace$Ship" "entry" "I", .fieldLink RX3 34 "TeaRace$Ship" "homeHour" "I", .fieldLink RX3 46 "TeaRace$Ship" "number" "I"] ++ wsX30)
def wsX3_entersBefore : List Cond := .code yX3_entersBefore cX3_entersBefore 2 (some .boolean) :: ([.fieldLink RX3 37 "TeaRace$Ship" "entry" "I", .fieldLink RX3 46 "TeaRace$Ship" "number" "I"] ++ wsX30)
def wsX3_firstSightFrom_r1 : List Cond := [Cond.fieldLink RX3 18 "TeaRace$Ship" "sights" "Ljava/util/List;", Cond.classLink RX3 101 "TeaRace$Sight", Cond.fieldLink RX3 103 "TeaRace$Sight" "hour" "I", Cond.methodLink RX3 78 ⟨"java/util/List", "size", "()I"⟩, Cond.selects RJx4a65c ⟨"java/util/List", "size", "()I"⟩ yJx4a65c_size_8abf5, Cond.instanceMethod yJx4a65c_size_8abf5, Cond.initialized RJx4a65c, Cond.code yJx4a65c_size_8abf5 cJx4a65c_size_8abf5 1 (some .int), Cond.fieldLink RJx4a65c 48 "java/util/ArrayList" "size" "I", Cond.methodLink RX3 83 ⟨"java/util/List", "get", "(I)Ljava/lang/Object;"⟩, Cond.selects RJx4a65c ⟨"java/util/List", "get", "(I)Ljava/lang/Object;"⟩ yJx4a65c_get_915e3, Cond.instanceMethod yJx4a65c_get_915e3, Cond.code yJx4a65c_get_915e3 cJx4a65c_get_915e3 2 (some (.object "java/lang/Object")), Cond.methodLink RJx4a65c 118 yJ15_checkIndex_7cf53, Cond.static yJ15_checkIndex_7cf53, Cond.initialized RJ15, Cond.code yJ15_checkIndex_7cf53 cJ15_checkIndex_7cf53 2 (some .int), Cond.methodLink RJ15 105 yJ3_checkIndex_8e157, Cond.static yJ3_checkIndex_8e157, Cond.initialized RJ3, Cond.code yJ3_checkIndex_8e157 cJ3_checkIndex_8e157 3 (some .int), Cond.methodLink RJx4a65c 123 yJx4a65c_elementData_915e3, Cond.instanceMethod yJx4a65c_elementData_915e3, Cond.selects RJx4a65c yJx4a65c_elementData_915e3 yJx4a65c_elementData_915e3]
def wsX3_firstSightFrom_r2 : List Cond := [Cond.code yJx4a65c_elementData_915e3 cJx4a65c_elementData_915e3 2 (some (.object "java/lang/Object")), Cond.fieldLink RJx4a65c 9 "java/util/ArrayList" "elementData" "[Ljava/lang/Object;"]
def wsX3_firstSightFrom : List Cond := .code yX3_firstSightFrom cX3_firstSightFrom 4 (some (.object "TeaRace$Sight")) :: ((wsX3_firstSightFrom_r1 ++ wsX3_firstSightFrom_r2) ++ wsX30 ++ wsX40 ++ wsJx4a65c0)
def wsX3_isUnseenFrom_r1 : List Cond := [Cond.methodLink RX3 94 yX3_firstSightFrom, Cond.instanceMethod yX3_firstSightFrom, Cond.selects RX3 yX3_firstSightFrom yX3_firstSightFrom, Cond.initialized RX3, Cond.code yX3_firstSightFrom cX3_firstSightFrom 4 (some (.object "TeaRace$Sight")), Cond.fieldLink RX3 18 "TeaRace$Ship" "sights" "Ljava/util/List;", Cond.classLink RX3 101 "TeaRace$Sight", Cond.fieldLink RX3 103 "TeaRace$Sight" "hour" "I", Cond.methodLink RX3 78 ⟨"java/util/List", "size", "()I"⟩, Cond.selects RJx4a65c ⟨"java/util/List", "size", "()I"⟩ yJx4a65c_size_8abf5, Cond.instanceMethod yJx4a65c_size_8abf5, Cond.initialized RJx4a65c, Cond.code yJx4a65c_size_8abf5 cJx4a65c_size_8abf5 1 (some .int), Cond.fieldLink RJx4a65c 48 "java/util/ArrayList" "size" "I", Cond.methodLink RX3 83 ⟨"java/util/List", "get", "(I)Ljava/lang/Object;"⟩, Cond.selects RJx4a65c ⟨"java/util/List", "get", "(I)Ljava/lang/Object;"⟩ yJx4a65c_get_915e3, Cond.instanceMethod yJx4a65c_get_915e3, Cond.code yJx4a65c_get_915e3 cJx4a65c_get_915e3 2 (some (.object "java/lang/Object")), Cond.methodLink RJx4a65c 118 yJ15_checkIndex_7cf53, Cond.static yJ15_checkIndex_7cf53, Cond.initialized RJ15, Cond.code yJ15_checkIndex_7cf53 cJ15_checkIndex_7cf53 2 (some .int), Cond.methodLink RJ15 105 yJ3_checkIndex_8e157, Cond.static yJ3_checkIndex_8e157]
def wsX3_isUnseenFrom_r2 : List Cond := [Cond.initialized RJ3, Cond.code yJ3_checkIndex_8e157 cJ3_checkIndex_8e157 3 (some .int), Cond.methodLink RJx4a65c 123 yJx4a65c_elementData_915e3, Cond.instanceMethod yJx4a65c_elementData_915e3, Cond.selects RJx4a65c yJx4a65c_elementData_915e3 yJx4a65c_elementData_915e3, Cond.code yJx4a65c_elementData_915e3 cJx4a65c_elementData_915e3 2 (some (.object "java/lang/Object")), Cond.fieldLink RJx4a65c 9 "java/util/ArrayList" "elementData" "[Ljava/lang/Object;"]
def wsX3_isUnseenFrom : List Cond := .code yX3_isUnseenFrom cX3_isUnseenFrom 2 (some .boolean) :: ((wsX3_isUnseenFrom_r1 ++ wsX3_isUnseenFrom_r2) ++ wsX30 ++ wsX40 ++ wsJx4a65c0)
def wsX3_lastSightBy_r1 : List Cond := [Cond.fieldLink RX3 18 "TeaRace$Ship" "sights" "Ljava/util/List;", Cond.classLink RX3 101 "TeaRace$Sight", Cond.fieldLink RX3 103 "TeaRace$Sight" "hour" "I", Cond.methodLink RX3 78 ⟨"java/util/List", "size", "()I"⟩, Cond.selects RJx4a65c ⟨"java/util/List", "size", "()I"⟩ yJx4a65c_size_8abf5, Cond.instanceMethod yJx4a65c_size_8abf5, Cond.initialized RJx4a65c, Cond.code yJx4a65c_size_8abf5 cJx4a65c_size_8abf5 1 (some .int), Cond.fieldLink RJx4a65c 48 "java/util/ArrayList" "size" "I", Cond.methodLink RX3 83 ⟨"java/util/List", "get", "(I)Ljava/lang/Object;"⟩, Cond.selects RJx4a65c ⟨"java/util/List", "get", "(I)Ljava/lang/Object;"⟩ yJx4a65c_get_915e3, Cond.instanceMethod yJx4a65c_get_915e3, Cond.code yJx4a65c_get_915e3 cJx4a65c_get_915e3 2 (some (.object "java/lang/Object")), Cond.methodLink RJx4a65c 118 yJ15_checkIndex_7cf53, Cond.static yJ15_checkIndex_7cf53, Cond.initialized RJ15, Cond.code yJ15_checkIndex_7cf53 cJ15_checkIndex_7cf53 2 (some .int), Cond.methodLink RJ15 105 yJ3_checkIndex_8e157, Cond.static yJ3_checkIndex_8e157, Cond.initialized RJ3, Cond.code yJ3_checkIndex_8e157 cJ3_checkIndex_8e157 3 (some .int), Cond.methodLink RJx4a65c 123 yJx4a65c_elementData_915e3, Cond.instanceMethod yJx4a65c_elementData_915e3, Cond.selects RJx4a65c yJx4a65c_elementData_915e3 yJx4a65c_elementData_915e3]
def wsX3_lastSightBy_r2 : List Cond := [Cond.code yJx4a65c_elementData_915e3 cJx4a65c_elementData_915e3 2 (some (.object "java/lang/Object")), Cond.fieldLink RJx4a65c 9 "java/util/ArrayList" "elementData" "[Ljava/lang/Object;"]
def wsX3_lastSightBy : List Cond := .code yX3_lastSightBy cX3_lastSightBy 5 (some (.object "TeaRace$Sight")) :: ((wsX3_lastSightBy_r1 ++ wsX3_lastSightBy_r2) ++ wsX30 ++ wsX40 ++ wsJx4a65c0)
def wsX3_isSeenAround_r1 : List Cond := [Cond.methodLink RX3 98 yX3_lastSightBy, Cond.instanceMethod yX3_lastSightBy, Cond.selects RX3 yX3_lastSightBy yX3_lastSightBy, Cond.initialized RX3, Cond.code yX3_lastSightBy cX3_lastSightBy 5 (some (.object "TeaRace$Sight")), Cond.fieldLink RX3 18 "TeaRace$Ship" "sights" "Ljava/util/List;", Cond.classLink RX3 101 "TeaRace$Sight", Cond.fieldLink RX3 103 "TeaRace$Sight" "hour" "I", Cond.methodLink RX3 78 ⟨"java/util/List", "size", "()I"⟩, Cond.selects RJx4a65c ⟨"java/util/List", "size", "()I"⟩ yJx4a65c_size_8abf5, Cond.instanceMethod yJx4a65c_size_8abf5, Cond.initialized RJx4a65c, Cond.code yJx4a65c_size_8abf5 cJx4a65c_size_8abf5 1 (some .int), Cond.fieldLink RJx4a65c 48 "java/util/ArrayList" "size" "I", Cond.methodLink RX3 83 ⟨"java/util/List", "get", "(I)Ljava/lang/Object;"⟩, Cond.selects RJx4a65c ⟨"java/util/List", "get", "(I)Ljava/lang/Object;"⟩ yJx4a65c_get_915e3, Cond.instanceMethod yJx4a65c_get_915e3, Cond.code yJx4a65c_get_915e3 cJx4a65c_get_915e3 2 (some (.object "java/lang/Object")), Cond.methodLink RJx4a65c 118 yJ15_checkIndex_7cf53, Cond.static yJ15_checkIndex_7cf53, Cond.initialized RJ15, Cond.code yJ15_checkIndex_7cf53 cJ15_checkIndex_7cf53 2 (some .int), Cond.methodLink RJ15 105 yJ3_checkIndex_8e157, Cond.static yJ3_checkIndex_8e157]
def wsX3_isSeenAround_r2 : List Cond := [Cond.initialized RJ3, Cond.code yJ3_checkIndex_8e157 cJ3_checkIndex_8e157 3 (some .int), Cond.methodLink RJx4a65c 123 yJx4a65c_elementData_915e3, Cond.instanceMethod yJx4a65c_elementData_915e3, Cond.selects RJx4a65c yJx4a65c_elementData_915e3 yJx4a65c_elementData_915e3, Cond.code yJx4a65c_elementData_915e3 cJx4a65c_elementData_915e3 2 (some (.object "java/lang/Object")), Cond.fieldLink RJx4a65c 9 "java/util/ArrayList" "elementData" "[Ljava/lang/Object;", Cond.methodLink RX3 94 yX3_firstSightFrom, Cond.instanceMethod yX3_firstSightFrom, Cond.selects RX3 yX3_firstSightFrom yX3_firstSightFrom, Cond.code yX3_firstSightFrom cX3_firstSightFrom 4 (some (.object "TeaRace$Sight"))]
def wsX3_isSeenAround : List Cond := .code yX3_isSeenAround cX3_isSeenAround 2 (some .boolean) :: ((wsX3_isSeenAround_r1 ++ wsX3_isSeenAround_r2) ++ wsX30 ++ wsX40 ++ wsJx4a65c0)
def wsX4_init : List Cond := .code yX4_init cX4_init 3 none :: ([.methodLink RX4 1 objectInit, .instanceMethod objectInit, .code objectInit ⟨#[0xb1]⟩ 1 none, .fieldLink RX4 7 "TeaRace$Sight" "cell" "I", .fieldLink RX4 13 "TeaRace$Sight" "hour" "I"] ++ wsX40)
def wsX5_init_r1 : List Cond := [Cond.methodLink RX5 1 objectInit, Cond.instanceMethod objectInit, Cond.code objectInit ⟨#[0xb1]⟩ 1 none, Cond.classLink RX5 7 RX2, Cond.instantiable RX2 3, Cond.initialized RX2, Cond.fieldLink RX5 10 "TeaRace" "sea" "LTeaRace$Sea;", Cond.classLink RX5 16 RX1, Cond.instantiable RX1 2, Cond.initialized RX1, Cond.fieldLink RX5 19 "TeaRace" "passage" "LTeaRace$Passage;", Cond.classLink RX5 23 RJx4a65c, Cond.instantiable RJx4a65c 3, Cond.initialized RJx4a65c, Cond.fieldLink RX5 26 "TeaRace" "fleet" "Ljava/util/List;", Cond.arrayClass .int, Cond.fieldLink RX5 30 "TeaRace" "findingCounts" "[I", Cond.fieldLink RX5 34 "TeaRace" "latestFinding" "I", Cond.fieldLink RX5 38 "TeaRace" "hour" "I", Cond.fieldLink RX5 41 "TeaRace" "homeCell" "I", Cond.fieldLink RX5 44 "TeaRace" "gateHour" "I", Cond.fieldLink RX5 47 "TeaRace" "sightCount" "I", Cond.fieldLink RX5 50 "TeaRace" "priceAtFirst" "I", Cond.fieldLink RX5 53 "TeaRace" "fallOfPrice" "I"]
def wsX5_init_r2 : List Cond := [Cond.fieldLink RX5 56 "TeaRace" "latestSale" "J", Cond.instanceMethod yX2_init, Cond.code yX2_init cX2_init 1 none, Cond.methodLink RX2 3 objectInit, Cond.arrayClass .boolean, Cond.fieldLink RX2 9 "TeaRace$Sea" "landCells" "[Z", Cond.fieldLink RX2 15 "TeaRace$Sea" "chartThere" "[Z", Cond.classLink RX2 18 "[[B", Cond.arrayClass .byte, Cond.fieldLink RX2 20 "TeaRace$Sea" "charts" "[[B", Cond.instanceMethod yX1_init, Cond.code yX1_init cX1_init 1 none, Cond.methodLink RX1 3 objectInit, Cond.fieldLink RX1 9 "TeaRace$Passage" "hoursTo" "[I", Cond.fieldLink RX1 15 "TeaRace$Passage" "departed" "[Z", Cond.methodLink RX5 25 yJx4a65c_init_da8c8, Cond.instanceMethod yJx4a65c_init_da8c8, Cond.code yJx4a65c_init_da8c8 cJx4a65c_init_da8c8 1 none, Cond.fieldLink RJx4a65c 39 "java/util/ArrayList" "DEFAULTCAPACITY_EMPTY_ELEMENTDATA" "[Ljava/lang/Object;", Cond.fieldLink RJx4a65c 9 "java/util/ArrayList" "elementData" "[Ljava/lang/Object;", Cond.methodLink RJx4a65c 1 yJxc12de_init_da8c8, Cond.instanceMethod yJxc12de_init_da8c8, Cond.initialized RJxc12de, Cond.code yJxc12de_init_da8c8 cJxc12de_init_da8c8 1 none]
def wsX5_init_r3 : List Cond := [Cond.fieldLink RJxc12de 7 "java/util/AbstractList" "modCount" "I", Cond.methodLink RJxc12de 1 yJxa1e45_init_da8c8, Cond.instanceMethod yJxa1e45_init_da8c8, Cond.initialized RJxa1e45, Cond.code yJxa1e45_init_da8c8 cJxa1e45_init_da8c8 1 none, Cond.methodLink RJxa1e45 1 objectInit]
def wsX5_init : List Cond := .code yX5_init cX5_init 1 none :: ((wsX5_init_r1 ++ (wsX5_init_r2 ++ wsX5_init_r3)) ++ wsX20 ++ wsX50 ++ wsX10 ++ wsJx4a65c0)
def wsX5_land : List Cond := .code yX5_land cX5_land 4 (some .int) :: ([.fieldLink RX5 10 "TeaRace" "sea" "LTeaRace$Sea;", .methodLink RX5 60 yX5_outside, .static yX5_outside, .initialized RX5, .code yX5_outside cX5_outside 2 (some .boolean), .methodLink RX5 64 yX2_isLand, .instanceMethod yX2_isLand, .selects RX2 yX2_isLand yX2_isLand, .initialized RX2, .code yX2_isLand cX2_isLand 2 (some .boolean), .fieldLink RX2 9 "TeaRace$Sea" "landCells" "[Z", .methodLink RX5 68 yX2_setLand, .instanceMethod yX2_setLand, .selects RX2 yX2_setLand yX2_setLand, .code yX2_setLand cX2_setLand 3 none] ++ wsX50 ++ wsX20)
def wsX5_chart : List Cond := .code yX5_chart cX5_chart 3 (some .int) :: ([.fieldLink RX5 10 "TeaRace" "sea" "LTeaRace$Sea;", .methodLink RX5 60 yX5_outside, .static yX5_outside, .initialized RX5, .code yX5_outside cX5_outside 2 (some .boolean), .methodLink RX5 72 yX2_hasChart, .instanceMethod yX2_hasChart, .selects RX2 yX2_hasChart yX2_hasChart, .initialized RX2, .code yX2_hasChart cX2_hasChart 2 (some .boolean), .fieldLink RX2 15 "TeaRace$Sea" "chartThere" "[Z", .methodLink RX5 75 yX2_drawCalm, .instanceMethod yX2_drawCalm, .selects RX2 yX2_drawCalm yX2_drawCalm, .code yX2_drawCalm cX2_drawCalm 2 none, .fieldLink RX2 20 "TeaRace$Sea" "charts" "[[B", .methodLink RX2 27 yJ7_fill_031fb, .static yJ7_fill_031fb, .initialized RJ7, .code yJ7_fill_031fb cJ7_fill_031fb 4 none] ++ wsX50 ++ wsX20)
def wsX5_found : List Cond := .code yX5_found cX5_found 2 (some .int) :: ([.fieldLink RX5 34 "TeaRace" "latestFinding" "I", .fieldLink RX5 30 "TeaRace" "findingCounts" "[I"] ++ wsX50)
def wsX5_wind_r1 : List Cond := [Cond.fieldLink RX5 10 "TeaRace" "sea" "LTeaRace$Sea;", Cond.methodLink RX5 60 yX5_outside, Cond.static yX5_outside, Cond.initialized RX5, Cond.code yX5_outside cX5_outside 2 (some .boolean), Cond.methodLink RX5 72 yX2_hasChart, Cond.instanceMethod yX2_hasChart, Cond.selects RX2 yX2_hasChart yX2_hasChart, Cond.initialized RX2, Cond.code yX2_hasChart cX2_hasChart 2 (some .boolean), Cond.fieldLink RX2 15 "TeaRace$Sea" "chartThere" "[Z", Cond.methodLink RX5 79 yX5_found, Cond.instanceMethod yX5_found, Cond.selects RX5 yX5_found yX5_found, Cond.code yX5_found cX5_found 2 (some .int), Cond.fieldLink RX5 34 "TeaRace" "latestFinding" "I", Cond.fieldLink RX5 30 "TeaRace" "findingCounts" "[I", Cond.methodLink RX5 83 yX2_drawnAt, Cond.instanceMethod yX2_drawnAt, Cond.selects RX2 yX2_drawnAt yX2_drawnAt, Cond.code yX2_drawnAt cX2_drawnAt 3 (some .int), Cond.fieldLink RX2 20 "TeaRace$Sea" "charts" "[[B", Cond.methodLink RX2 33 yX2_hasChart, Cond.methodLink RX5 87 yX2_drawAt]
def wsX5_wind_r2 : List Cond := [Cond.instanceMethod yX2_drawAt, Cond.selects RX2 yX2_drawAt yX2_drawAt, Cond.code yX2_drawAt cX2_drawAt 4 none]
def wsX5_wind : List Cond := .code yX5_wind cX5_wind 5 (some .int) :: ((wsX5_wind_r1 ++ wsX5_wind_r2) ++ wsX50 ++ wsX20)
def wsX5_tear : List Cond := .code yX5_tear cX5_tear 2 (some .int) :: ([.fieldLink RX5 10 "TeaRace" "sea" "LTeaRace$Sea;", .methodLink RX5 60 yX5_outside, .static yX5_outside, .initialized RX5, .code yX5_outside cX5_outside 2 (some .boolean), .methodLink RX5 72 yX2_hasChart, .instanceMethod yX2_hasChart, .selects RX2 yX2_hasChart yX2_hasChart, .initialized RX2, .code yX2_hasChart cX2_hasChart 2 (some .boolean), .fieldLink RX2 15 "TeaRace$Sea" "chartThere" "[Z", .methodLink RX5 79 yX5_found, .instanceMethod yX5_found, .selects RX5 yX5_found yX5_found, .code yX5_found cX5_found 2 (some .int), .fieldLink RX5 34 "TeaRace" "latestFinding" "I", .fieldLink RX5 30 "TeaRace" "findingCounts" "[I", .methodLink RX5 91 yX2_loseChart, .instanceMethod yX2_loseChart, .selects RX2 yX2_loseChart yX2_loseChart, .code yX2_loseChart cX2_loseChart 2 none] ++ wsX50 ++ wsX20)
def wsX5_copy_r1 : List Cond := [Cond.fieldLink RX5 10 "TeaRace" "sea" "LTeaRace$Sea;", Cond.methodLink RX5 60 yX5_outside, Cond.static yX5_outside, Cond.initialized RX5, Cond.code yX5_outside cX5_outside 2 (some .boolean), Cond.methodLink RX5 79 yX5_found, Cond.instanceMethod yX5_found, Cond.selects RX5 yX5_found yX5_found, Cond.code yX5_found cX5_found 2 (some .int), Cond.fieldLink RX5 34 "TeaRace" "latestFinding" "I", Cond.fieldLink RX5 30 "TeaRace" "findingCounts" "[I", Cond.methodLink RX5 72 yX2_hasChart, Cond.instanceMethod yX2_hasChart, Cond.selects RX2 yX2_hasChart yX2_hasChart, Cond.initialized RX2, Cond.code yX2_hasChart cX2_hasChart 2 (some .boolean), Cond.fieldLink RX2 15 "TeaRace$Sea" "chartThere" "[Z", Cond.methodLink RX5 94 yX2_copyChart, Cond.instanceMethod yX2_copyChart, Cond.selects RX2 yX2_copyChart yX2_copyChart, Cond.code yX2_copyChart cX2_copyChart 6 none, Cond.fieldLink RX2 20 "TeaRace$Sea" "charts" "[[B", Cond.methodLink RX2 37 arraycopyName, Cond.native arraycopyName]
def wsX5_copy_r2 : List Cond := [Cond.static arraycopyName, Cond.initialized "java/lang/System", Cond.methodLink RX2 33 yX2_hasChart]
def wsX5_copy : List Cond := .code yX5_copy cX5_copy 6 (some .int) :: ((wsX5_copy_r1 ++ wsX5_copy_r2) ++ wsX50 ++ wsX20)
def wsX5_mean_r1 : List Cond := [Cond.fieldLink RX5 10 "TeaRace" "sea" "LTeaRace$Sea;", Cond.methodLink RX5 60 yX5_outside, Cond.static yX5_outside, Cond.initialized RX5, Cond.code yX5_outside cX5_outside 2 (some .boolean), Cond.methodLink RX5 72 yX2_hasChart, Cond.instanceMethod yX2_hasChart, Cond.selects RX2 yX2_hasChart yX2_hasChart, Cond.initialized RX2, Cond.code yX2_hasChart cX2_hasChart 2 (some .boolean), Cond.fieldLink RX2 15 "TeaRace$Sea" "chartThere" "[Z", Cond.methodLink RX5 79 yX5_found, Cond.instanceMethod yX5_found, Cond.selects RX5 yX5_found yX5_found, Cond.code yX5_found cX5_found 2 (some .int), Cond.fieldLink RX5 34 "TeaRace" "latestFinding" "I", Cond.fieldLink RX5 30 "TeaRace" "findingCounts" "[I", Cond.methodLink RX5 98 yX2_windIn, Cond.instanceMethod yX2_windIn, Cond.selects RX2 yX2_windIn yX2_windIn, Cond.code yX2_windIn cX2_windIn 4 (some .int), Cond.fieldLink RX2 20 "TeaRace$Sea" "charts" "[[B", Cond.methodLink RX5 101 yX5_strengthOf, Cond.static yX5_strengthOf]
def wsX5_mean_r2 : List Cond := [Cond.code yX5_strengthOf cX5_strengthOf 1 (some .int)]
def wsX5_mean : List Cond := .code yX5_mean cX5_mean 4 (some .int) :: ((wsX5_mean_r1 ++ wsX5_mean_r2) ++ wsX50 ++ wsX20)
def wsX5_isNoWater : List Cond := .code yX5_isNoWater cX5_isNoWater 2 (some .boolean) :: ([.fieldLink RX5 10 "TeaRace" "sea" "LTeaRace$Sea;", .methodLink RX5 60 yX5_outside, .static yX5_outside, .initialized RX5, .code yX5_outside cX5_outside 2 (some .boolean), .methodLink RX5 64 yX2_isLand, .instanceMethod yX2_isLand, .selects RX2 yX2_isLand yX2_isLand, .initialized RX2, .code yX2_isLand cX2_isLand 2 (some .boolean), .fieldLink RX2 9 "TeaRace$Sea" "landCells" "[Z"] ++ wsX50 ++ wsX20)
def wsJ8_hugeLength_7cf53 : List Cond := .code yJ8_hugeLength_7cf53 cJ8_hugeLength_7cf53 3 (some .int) :: ([.constant RJ8 200 (2147483639)])
def wsJ8_newLength_cabcc : List Cond := .code yJ8_newLength_cabcc cJ8_newLength_cabcc 4 (some .int) :: ([.methodLink RJ8 194 Lib.Math.max.name, .static Lib.Math.max.name, .initialized "java/lang/Math", .code Lib.Math.max.name Lib.Math.max.code 2 (some .int), .constant RJ8 200 (2147483639), .methodLink RJ8 201 yJ8_hugeLength_7cf53, .static yJ8_hugeLength_7cf53, .initialized RJ8, .code yJ8_hugeLength_7cf53 cJ8_hugeLength_7cf53 3 (some .int)])
def wsJ7_copyOf_6403c : List Cond := .code yJ7_copyOf_6403c cJ7_copyOf_6403c 4 (some (.array (.object "java/lang/Object"))) :: ([.classLink RJ7 110 "[Ljava/lang/Object;", .classLink RJ7 2 "java/lang/Object", .methodLink RJ7 304 Lib.Math.min.name, .static Lib.Math.min.name, .initialized "java/lang/Math", .code Lib.Math.min.name Lib.Math.min.code 2 (some .int), .methodLink RJ7 150 arraycopyName, .native arraycopyName, .static arraycopyName, .initialized "java/lang/System"])
def wsJ7_copyOf_1904c : List Cond := .code yJ7_copyOf_1904c cJ7_copyOf_1904c 2 (some (.array (.object "java/lang/Object"))) :: ([.methodLink RJ7 86 ⟨"java/lang/Object", "getClass", "()Ljava/lang/Class;"⟩, .selects "[Ljava/lang/Object;" ⟨"java/lang/Object", "getClass", "()Ljava/lang/Class;"⟩ ⟨"java/lang/Object", "getClass", "()Ljava/lang/Class;"⟩, .instanceMethod ⟨"java/lang/Object", "getClass", "()Ljava/lang/Class;"⟩, .native ⟨"java/lang/Object", "getClass", "()Ljava/lang/Class;"⟩, .methodLink RJ7 300 yJ7_copyOf_6403c, .static yJ7_copyOf_6403c, .initialized RJ7, .code yJ7_copyOf_6403c cJ7_copyOf_6403c 4 (some (.array (.object "java/lang/Object"))), .classLink RJ7 110 "[Ljava/lang/Object;", .classLink RJ7 2 "java/lang/Object", .methodLink RJ7 304 Lib.Math.min.name, .static Lib.Math.min.name, .initialized "java/lang/Math", .code Lib.Math.min.name Lib.Math.min.code 2 (some .int), .methodLink RJ7 150 arraycopyName, .native arraycopyName, .static arraycopyName, .initialized "java/lang/System"])
def wsJx4a65c_grow_92f84_r1 : List Cond := [Cond.fieldLink RJx4a65c 9 "java/util/ArrayList" "elementData" "[Ljava/lang/Object;", Cond.fieldLink RJx4a65c 39 "java/util/ArrayList" "DEFAULTCAPACITY_EMPTY_ELEMENTDATA" "[Ljava/lang/Object;", Cond.methodLink RJx4a65c 79 Lib.Math.max.name, Cond.static Lib.Math.max.name, Cond.initialized "java/lang/Math", Cond.code Lib.Math.max.name Lib.Math.max.code 2 (some .int), Cond.classLink RJx4a65c 7 "java/lang/Object", Cond.methodLink RJx4a65c 73 yJ8_newLength_cabcc, Cond.static yJ8_newLength_cabcc, Cond.initialized RJ8, Cond.code yJ8_newLength_cabcc cJ8_newLength_cabcc 4 (some .int), Cond.methodLink RJ8 194 Lib.Math.max.name, Cond.constant RJ8 200 (2147483639), Cond.methodLink RJ8 201 yJ8_hugeLength_7cf53, Cond.static yJ8_hugeLength_7cf53, Cond.code yJ8_hugeLength_7cf53 cJ8_hugeLength_7cf53 3 (some .int), Cond.methodLink RJx4a65c 66 yJ7_copyOf_1904c, Cond.static yJ7_copyOf_1904c, Cond.initialized RJ7, Cond.code yJ7_copyOf_1904c cJ7_copyOf_1904c 2 (some (.array (.object "java/lang/Object"))), Cond.methodLink RJ7 86 ⟨"java/lang/Object", "getClass", "()Ljava/lang/Class;"⟩, Cond.selects "[Ljava/lang/Object;" ⟨"java/lang/Object", "getClass", "()Ljava/lang/Class;"⟩ ⟨"java/lang/Object", "getClass", "()Ljava/lang/Class;"⟩, Cond.instanceMethod ⟨"java/lang/Object", "getClass", "()Ljava/lang/Class;"⟩, Cond.native ⟨"java/lang/Object", "getClass", "()Ljava/lang/Class;"⟩]
def wsJx4a65c_grow_92f84_r2 : List Cond := [Cond.methodLink RJ7 300 yJ7_copyOf_6403c, Cond.static yJ7_copyOf_6403c, Cond.code yJ7_copyOf_6403c cJ7_copyOf_6403c 4 (some (.array (.object "java/lang/Object"))), Cond.classLink RJ7 110 "[Ljava/lang/Object;", Cond.classLink RJ7 2 "java/lang/Object", Cond.methodLink RJ7 304 Lib.Math.min.name, Cond.static Lib.Math.min.name, Cond.code Lib.Math.min.name Lib.Math.min.code 2 (some .int), Cond.methodLink RJ7 150 arraycopyName, Cond.native arraycopyName, Cond.static arraycopyName, Cond.initialized "java/lang/System"]
def wsJx4a65c_grow_92f84 : List Cond := .code yJx4a65c_grow_92f84 cJx4a65c_grow_92f84 4 (some (.array (.object "java/lang/Object"))) :: ((wsJx4a65c_grow_92f84_r1 ++ wsJx4a65c_grow_92f84_r2) ++ wsJx4a65c0)
def wsJx4a65c_grow_d5877_r1 : List Cond := [Cond.fieldLink RJx4a65c 48 "java/util/ArrayList" "size" "I", Cond.methodLink RJx4a65c 69 yJx4a65c_grow_92f84, Cond.instanceMethod yJx4a65c_grow_92f84, Cond.selects RJx4a65c yJx4a65c_grow_92f84 yJx4a65c_grow_92f84, Cond.initialized RJx4a65c, Cond.code yJx4a65c_grow_92f84 cJx4a65c_grow_92f84 4 (some (.array (.object "java/lang/Object"))), Cond.fieldLink RJx4a65c 9 "java/util/ArrayList" "elementData" "[Ljava/lang/Object;", Cond.fieldLink RJx4a65c 39 "java/util/ArrayList" "DEFAULTCAPACITY_EMPTY_ELEMENTDATA" "[Ljava/lang/Object;", Cond.methodLink RJx4a65c 79 Lib.Math.max.name, Cond.static Lib.Math.max.name, Cond.initialized "java/lang/Math", Cond.code Lib.Math.max.name Lib.Math.max.code 2 (some .int), Cond.classLink RJx4a65c 7 "java/lang/Object", Cond.methodLink RJx4a65c 73 yJ8_newLength_cabcc, Cond.static yJ8_newLength_cabcc, Cond.initialized RJ8, Cond.code yJ8_newLength_cabcc cJ8_newLength_cabcc 4 (some .int), Cond.methodLink RJ8 194 Lib.Math.max.name, Cond.constant RJ8 200 (2147483639), Cond.methodLink RJ8 201 yJ8_hugeLength_7cf53, Cond.static yJ8_hugeLength_7cf53, Cond.code yJ8_hugeLength_7cf53 cJ8_hugeLength_7cf53 3 (some .int), Cond.methodLink RJx4a65c 66 yJ7_copyOf_1904c, Cond.static yJ7_copyOf_1904c]
def wsJx4a65c_grow_d5877_r2 : List Cond := [Cond.initialized RJ7, Cond.code yJ7_copyOf_1904c cJ7_copyOf_1904c 2 (some (.array (.object "java/lang/Object"))), Cond.methodLink RJ7 86 ⟨"java/lang/Object", "getClass", "()Ljava/lang/Class;"⟩, Cond.selects "[Ljava/lang/Object;" ⟨"java/lang/Object", "getClass", "()Ljava/lang/Class;"⟩ ⟨"java/lang/Object", "getClass", "()Ljava/lang/Class;"⟩, Cond.instanceMethod ⟨"java/lang/Object", "getClass", "()Ljava/lang/Class;"⟩, Cond.native ⟨"java/lang/Object", "getClass", "()Ljava/lang/Class;"⟩, Cond.methodLink RJ7 300 yJ7_copyOf_6403c, Cond.static yJ7_copyOf_6403c, Cond.code yJ7_copyOf_6403c cJ7_copyOf_6403c 4 (some (.array (.object "java/lang/Object"))), Cond.classLink RJ7 110 "[Ljava/lang/Object;", Cond.classLink RJ7 2 "java/lang/Object", Cond.methodLink RJ7 304 Lib.Math.min.name, Cond.static Lib.Math.min.name, Cond.code Lib.Math.min.name Lib.Math.min.code 2 (some .int), Cond.methodLink RJ7 150 arraycopyName, Cond.native arraycopyName, Cond.static arraycopyName, Cond.initialized "java/lang/System"]
def wsJx4a65c_grow_d5877 : List Cond := .code yJx4a65c_grow_d5877 cJx4a65c_grow_d5877 1 (some (.array (.object "java/lang/Object"))) :: ((wsJx4a65c_grow_d5877_r1 ++ wsJx4a65c_grow_d5877_r2) ++ wsJx4a65c0)
def wsJx4a65c_add_72be8_r1 : List Cond := [Cond.fieldLink RJx4a65c 48 "java/util/ArrayList" "size" "I", Cond.methodLink RJx4a65c 129 yJx4a65c_grow_d5877, Cond.instanceMethod yJx4a65c_grow_d5877, Cond.selects RJx4a65c yJx4a65c_grow_d5877 yJx4a65c_grow_d5877, Cond.initialized RJx4a65c, Cond.code yJx4a65c_grow_d5877 cJx4a65c_grow_d5877 1 (some (.array (.object "java/lang/Object"))), Cond.methodLink RJx4a65c 69 yJx4a65c_grow_92f84, Cond.instanceMethod yJx4a65c_grow_92f84, Cond.selects RJx4a65c yJx4a65c_grow_92f84 yJx4a65c_grow_92f84, Cond.code yJx4a65c_grow_92f84 cJx4a65c_grow_92f84 4 (some (.array (.object "java/lang/Object"))), Cond.fieldLink RJx4a65c 9 "java/util/ArrayList" "elementData" "[Ljava/lang/Object;", Cond.fieldLink RJx4a65c 39 "java/util/ArrayList" "DEFAULTCAPACITY_EMPTY_ELEMENTDATA" "[Ljava/lang/Object;", Cond.methodLink RJx4a65c 79 Lib.Math.max.name, Cond.static Lib.Math.max.name, Cond.initialized "java/lang/Math", Cond.code Lib.Math.max.name Lib.Math.max.code 2 (some .int), Cond.classLink RJx4a65c 7 "java/lang/Object", Cond.methodLink RJx4a65c 73 yJ8_newLength_cabcc, Cond.static yJ8_newLength_cabcc, Cond.initialized RJ8, Cond.code yJ8_newLength_cabcc cJ8_newLength_cabcc 4 (some .int), Cond.methodLink RJ8 194 Lib.Math.max.name, Cond.constant RJ8 200 (2147483639), Cond.methodLink RJ8 201 yJ8_hugeLength_7cf53]
def wsJx4a65c_add_72be8_r2 : List Cond := [Cond.static yJ8_hugeLength_7cf53, Cond.code yJ8_hugeLength_7cf53 cJ8_hugeLength_7cf53 3 (some .int), Cond.methodLink RJx4a65c 66 yJ7_copyOf_1904c, Cond.static yJ7_copyOf_1904c, Cond.initialized RJ7, Cond.code yJ7_copyOf_1904c cJ7_copyOf_1904c 2 (some (.array (.object "java/lang/Object"))), Cond.methodLink RJ7 86 ⟨"java/lang/Object", "getClass", "()Ljava/lang/Class;"⟩, Cond.selects "[Ljava/lang/Object;" ⟨"java/lang/Object", "getClass", "()Ljava/lang/Class;"⟩ ⟨"java/lang/Object", "getClass", "()Ljava/lang/Class;"⟩, Cond.instanceMethod ⟨"java/lang/Object", "getClass", "()Ljava/lang/Class;"⟩, Cond.native ⟨"java/lang/Object", "getClass", "()Ljava/lang/Class;"⟩, Cond.methodLink RJ7 300 yJ7_copyOf_6403c, Cond.static yJ7_copyOf_6403c, Cond.code yJ7_copyOf_6403c cJ7_copyOf_6403c 4 (some (.array (.object "java/lang/Object"))), Cond.classLink RJ7 110 "[Ljava/lang/Object;", Cond.classLink RJ7 2 "java/lang/Object", Cond.methodLink RJ7 304 Lib.Math.min.name, Cond.static Lib.Math.min.name, Cond.code Lib.Math.min.name Lib.Math.min.code 2 (some .int), Cond.methodLink RJ7 150 arraycopyName, Cond.native arraycopyName, Cond.static arraycopyName, Cond.initialized "java/lang/System"]
def wsJx4a65c_add_72be8 : List Cond := .code yJx4a65c_add_72be8 cJx4a65c_add_72be8 4 none :: ((wsJx4a65c_add_72be8_r1 ++ wsJx4a65c_add_72be8_r2) ++ wsJx4a65c0)
def wsJx4a65c_add_9ea2d_r1 : List Cond := [Cond.fieldLink RJx4a65c 63 "java/util/ArrayList" "modCount" "I", Cond.sameField "java/util/ArrayList" "java/util/AbstractList" "modCount" "I", Cond.fieldLink RJx4a65c 9 "java/util/ArrayList" "elementData" "[Ljava/lang/Object;", Cond.fieldLink RJx4a65c 48 "java/util/ArrayList" "size" "I", Cond.methodLink RJx4a65c 131 yJx4a65c_add_72be8, Cond.instanceMethod yJx4a65c_add_72be8, Cond.selects RJx4a65c yJx4a65c_add_72be8 yJx4a65c_add_72be8, Cond.initialized RJx4a65c, Cond.code yJx4a65c_add_72be8 cJx4a65c_add_72be8 4 none, Cond.methodLink RJx4a65c 129 yJx4a65c_grow_d5877, Cond.instanceMethod yJx4a65c_grow_d5877, Cond.selects RJx4a65c yJx4a65c_grow_d5877 yJx4a65c_grow_d5877, Cond.code yJx4a65c_grow_d5877 cJx4a65c_grow_d5877 1 (some (.array (.object "java/lang/Object"))), Cond.methodLink RJx4a65c 69 yJx4a65c_grow_92f84, Cond.instanceMethod yJx4a65c_grow_92f84, Cond.selects RJx4a65c yJx4a65c_grow_92f84 yJx4a65c_grow_92f84, Cond.code yJx4a65c_grow_92f84 cJx4a65c_grow_92f84 4 (some (.array (.object "java/lang/Object"))), Cond.fieldLink RJx4a65c 39 "java/util/ArrayList" "DEFAULTCAPACITY_EMPTY_ELEMENTDATA" "[Ljava/lang/Object;", Cond.methodLink RJx4a65c 79 Lib.Math.max.name, Cond.static Lib.Math.max.name, Cond.initialized "java/lang/Math", Cond.code Lib.Math.max.name Lib.Math.max.code 2 (some .int), Cond.classLink RJx4a65c 7 "java/lang/Object", Cond.methodLink RJx4a65c 73 yJ8_newLength_cabcc]
def wsJx4a65c_add_9ea2d_r2 : List Cond := [Cond.static yJ8_newLength_cabcc, Cond.initialized RJ8, Cond.code yJ8_newLength_cabcc cJ8_newLength_cabcc 4 (some .int), Cond.methodLink RJ8 194 Lib.Math.max.name, Cond.constant RJ8 200 (2147483639), Cond.methodLink RJ8 201 yJ8_hugeLength_7cf53, Cond.static yJ8_hugeLength_7cf53, Cond.code yJ8_hugeLength_7cf53 cJ8_hugeLength_7cf53 3 (some .int), Cond.methodLink RJx4a65c 66 yJ7_copyOf_1904c, Cond.static yJ7_copyOf_1904c, Cond.initialized RJ7, Cond.code yJ7_copyOf_1904c cJ7_copyOf_1904c 2 (some (.array (.object "java/lang/Object"))), Cond.methodLink RJ7 86 ⟨"java/lang/Object", "getClass", "()Ljava/lang/Class;"⟩, Cond.selects "[Ljava/lang/Object;" ⟨"java/lang/Object", "getClass", "()Ljava/lang/Class;"⟩ ⟨"java/lang/Object", "getClass", "()Ljava/lang/Class;"⟩, Cond.instanceMethod ⟨"java/lang/Object", "getClass", "()Ljava/lang/Class;"⟩, Cond.native ⟨"java/lang/Object", "getClass", "()Ljava/lang/Class;"⟩, Cond.methodLink RJ7 300 yJ7_copyOf_6403c, Cond.static yJ7_copyOf_6403c, Cond.code yJ7_copyOf_6403c cJ7_copyOf_6403c 4 (some (.array (.object "java/lang/Object"))), Cond.classLink RJ7 110 "[Ljava/lang/Object;", Cond.classLink RJ7 2 "java/lang/Object", Cond.methodLink RJ7 304 Lib.Math.min.name, Cond.static Lib.Math.min.name, Cond.code Lib.Math.min.name Lib.Math.min.code 2 (some .int)]
def wsJx4a65c_add_9ea2d_r3 : List Cond := [Cond.methodLink RJ7 150 arraycopyName, Cond.native arraycopyName, Cond.static arraycopyName, Cond.initialized "java/lang/System"]
def wsJx4a65c_add_9ea2d : List Cond := .code yJx4a65c_add_9ea2d cJx4a65c_add_9ea2d 2 (some .boolean) :: ((wsJx4a65c_add_9ea2d_r1 ++ (wsJx4a65c_add_9ea2d_r2 ++ wsJx4a65c_add_9ea2d_r3)) ++ wsJx4a65c0)
def wsX5_ship_r1 : List Cond := [Cond.fieldLink RX5 26 "TeaRace" "fleet" "Ljava/util/List;", Cond.fieldLink RX5 38 "TeaRace" "hour" "I", Cond.classLink RX5 113 RX3, Cond.instantiable RX3 14, Cond.initialized RX3, Cond.methodLink RX5 60 yX5_outside, Cond.static yX5_outside, Cond.initialized RX5, Cond.code yX5_outside cX5_outside 2 (some .boolean), Cond.methodLink RX5 104 yX5_isNoWater, Cond.instanceMethod yX5_isNoWater, Cond.selects RX5 yX5_isNoWater yX5_isNoWater, Cond.code yX5_isNoWater cX5_isNoWater 2 (some .boolean), Cond.fieldLink RX5 10 "TeaRace" "sea" "LTeaRace$Sea;", Cond.methodLink RX5 64 yX2_isLand, Cond.instanceMethod yX2_isLand, Cond.selects RX2 yX2_isLand yX2_isLand, Cond.initialized RX2, Cond.code yX2_isLand cX2_isLand 2 (some .boolean), Cond.fieldLink RX2 9 "TeaRace$Sea" "landCells" "[Z", Cond.methodLink RX5 107 ⟨"java/util/List", "size", "()I"⟩, Cond.selects RJx4a65c ⟨"java/util/List", "size", "()I"⟩ yJx4a65c_size_8abf5, Cond.instanceMethod yJx4a65c_size_8abf5, Cond.initialized RJx4a65c]
def wsX5_ship_r2 : List Cond := [Cond.code yJx4a65c_size_8abf5 cJx4a65c_size_8abf5 1 (some .int), Cond.fieldLink RJx4a65c 48 "java/util/ArrayList" "size" "I", Cond.methodLink RX5 115 yX3_init, Cond.instanceMethod yX3_init, Cond.code yX3_init cX3_init 5 none, Cond.methodLink RX3 3 objectInit, Cond.instanceMethod objectInit, Cond.code objectInit ⟨#[0xb1]⟩ 1 none, Cond.classLink RX3 9 RJx4a65c, Cond.instantiable RJx4a65c 3, Cond.fieldLink RX3 12 "TeaRace$Ship" "orders" "Ljava/util/List;", Cond.fieldLink RX3 18 "TeaRace$Ship" "sights" "Ljava/util/List;", Cond.fieldLink RX3 21 "TeaRace$Ship" "gone" "I", Cond.fieldLink RX3 25 "TeaRace$Ship" "way" "I", Cond.fieldLink RX3 28 "TeaRace$Ship" "foulness" "I", Cond.fieldLink RX3 31 "TeaRace$Ship" "cellsComeTo" "I", Cond.fieldLink RX3 34 "TeaRace$Ship" "homeHour" "I", Cond.fieldLink RX3 37 "TeaRace$Ship" "entry" "I", Cond.fieldLink RX3 40 "TeaRace$Ship" "rate" "I", Cond.fieldLink RX3 43 "TeaRace$Ship" "premium" "I", Cond.fieldLink RX3 46 "TeaRace$Ship" "number" "I", Cond.fieldLink RX3 49 "TeaRace$Ship" "kind" "I", Cond.fieldLink RX3 52 "TeaRace$Ship" "cell" "I", Cond.fieldLink RX3 55 "TeaRace$Ship" "chests" "I"]
def wsX5_ship_r3 : List Cond := [Cond.methodLink RX3 11 yJx4a65c_init_da8c8, Cond.instanceMethod yJx4a65c_init_da8c8, Cond.code yJx4a65c_init_da8c8 cJx4a65c_init_da8c8 1 none, Cond.fieldLink RJx4a65c 39 "java/util/ArrayList" "DEFAULTCAPACITY_EMPTY_ELEMENTDATA" "[Ljava/lang/Object;", Cond.fieldLink RJx4a65c 9 "java/util/ArrayList" "elementData" "[Ljava/lang/Object;", Cond.methodLink RJx4a65c 1 yJxc12de_init_da8c8, Cond.instanceMethod yJxc12de_init_da8c8, Cond.initialized RJxc12de, Cond.code yJxc12de_init_da8c8 cJxc12de_init_da8c8 1 none, Cond.fieldLink RJxc12de 7 "java/util/AbstractList" "modCount" "I", Cond.methodLink RJxc12de 1 yJxa1e45_init_da8c8, Cond.instanceMethod yJxa1e45_init_da8c8, Cond.initialized RJxa1e45, Cond.code yJxa1e45_init_da8c8 cJxa1e45_init_da8c8 1 none, Cond.methodLink RJxa1e45 1 objectInit, Cond.methodLink RX5 118 ⟨"java/util/List", "add", "(Ljava/lang/Object;)Z"⟩, Cond.selects RJx4a65c ⟨"java/util/List", "add", "(Ljava/lang/Object;)Z"⟩ yJx4a65c_add_9ea2d, Cond.instanceMethod yJx4a65c_add_9ea2d, Cond.code yJx4a65c_add_9ea2d cJx4a65c_add_9ea2d 2 (some .boolean), Cond.fieldLink RJx4a65c 63 "java/util/ArrayList" "modCount" "I", Cond.sameField "java/util/ArrayList" "java/util/AbstractList" "modCount" "I", Cond.methodLink RJx4a65c 131 yJx4a65c_add_72be8, Cond.instanceMethod yJx4a65c_add_72be8, Cond.selects RJx4a65c yJx4a65c_add_72be8 yJx4a65c_add_72be8]
def wsX5_ship_r4 : List Cond := [Cond.code yJx4a65c_add_72be8 cJx4a65c_add_72be8 4 none, Cond.methodLink RJx4a65c 129 yJx4a65c_grow_d5877, Cond.instanceMethod yJx4a65c_grow_d5877, Cond.selects RJx4a65c yJx4a65c_grow_d5877 yJx4a65c_grow_d5877, Cond.code yJx4a65c_grow_d5877 cJx4a65c_grow_d5877 1 (some (.array (.object "java/lang/Object"))), Cond.methodLink RJx4a65c 69 yJx4a65c_grow_92f84, Cond.instanceMethod yJx4a65c_grow_92f84, Cond.selects RJx4a65c yJx4a65c_grow_92f84 yJx4a65c_grow_92f84, Cond.code yJx4a65c_grow_92f84 cJx4a65c_grow_92f84 4 (some (.array (.object "java/lang/Object"))), Cond.methodLink RJx4a65c 79 Lib.Math.max.name, Cond.static Lib.Math.max.name, Cond.initialized "java/lang/Math", Cond.code Lib.Math.max.name Lib.Math.max.code 2 (some .int), Cond.classLink RJx4a65c 7 "java/lang/Object", Cond.methodLink RJx4a65c 73 yJ8_newLength_cabcc, Cond.static yJ8_newLength_cabcc, Cond.initialized RJ8, Cond.code yJ8_newLength_cabcc cJ8_newLength_cabcc 4 (some .int), Cond.methodLink RJ8 194 Lib.Math.max.name, Cond.constant RJ8 200 (2147483639), Cond.methodLink RJ8 201 yJ8_hugeLength_7cf53, Cond.static yJ8_hugeLength_7cf53, Cond.code yJ8_hugeLength_7cf53 cJ8_hugeLength_7cf53 3 (some .int), Cond.methodLink RJx4a65c 66 yJ7_copyOf_1904c]
def wsX5_ship_r5 : List Cond := [Cond.static yJ7_copyOf_1904c, Cond.initialized RJ7, Cond.code yJ7_copyOf_1904c cJ7_copyOf_1904c 2 (some (.array (.object "java/lang/Object"))), Cond.methodLink RJ7 86 ⟨"java/lang/Object", "getClass", "()Ljava/lang/Class;"⟩, Cond.selects "[Ljava/lang/Object;" ⟨"java/lang/Object", "getClass", "()Ljava/lang/Class;"⟩ ⟨"java/lang/Object", "getClass", "()Ljava/lang/Class;"⟩, Cond.instanceMethod ⟨"java/lang/Object", "getClass", "()Ljava/lang/Class;"⟩, Cond.native ⟨"java/lang/Object", "getClass", "()Ljava/lang/Class;"⟩, Cond.methodLink RJ7 300 yJ7_copyOf_6403c, Cond.static yJ7_copyOf_6403c, Cond.code yJ7_copyOf_6403c cJ7_copyOf_6403c 4 (some (.array (.object "java/lang/Object"))), Cond.classLink RJ7 110 "[Ljava/lang/Object;", Cond.classLink RJ7 2 "java/lang/Object", Cond.methodLink RJ7 304 Lib.Math.min.name, Cond.static Lib.Math.min.name, Cond.code Lib.Math.min.name Lib.Math.min.code 2 (some .int), Cond.methodLink RJ7 150 arraycopyName, Cond.native arraycopyName, Cond.static arraycopyName, Cond.initialized "java/lang/System"]
def wsX5_ship : List Cond := .code yX5_ship cX5_ship 5 (some .int) :: ((wsX5_ship_r1 ++ (wsX5_ship_r2 ++ (wsX5_ship_r3 ++ (wsX5_ship_r4 ++ wsX5_ship_r5)))) ++ wsX50 ++ wsX30 ++ wsX20 ++ wsJx4a65c0)
def wsX5_shipOf_r1 : List Cond := [Cond.fieldLink RX5 26 "TeaRace" "fleet" "Ljava/util/List;", Cond.classLink RX5 113 "TeaRace$Ship", Cond.methodLink RX5 107 ⟨"java/util/List", "size", "()I"⟩, Cond.selects RJx4a65c ⟨"java/util/List", "size", "()I"⟩ yJx4a65c_size_8abf5, Cond.instanceMethod yJx4a65c_size_8abf5, Cond.initialized RJx4a65c, Cond.code yJx4a65c_size_8abf5 cJx4a65c_size_8abf5 1 (some .int), Cond.fieldLink RJx4a65c 48 "java/util/ArrayList" "size" "I", Cond.methodLink RX5 175 ⟨"java/util/List", "get", "(I)Ljava/lang/Object;"⟩, Cond.selects RJx4a65c ⟨"java/util/List", "get", "(I)Ljava/lang/Object;"⟩ yJx4a65c_get_915e3, Cond.instanceMethod yJx4a65c_get_915e3, Cond.code yJx4a65c_get_915e3 cJx4a65c_get_915e3 2 (some (.object "java/lang/Object")), Cond.methodLink RJx4a65c 118 yJ15_checkIndex_7cf53, Cond.static yJ15_checkIndex_7cf53, Cond.initialized RJ15, Cond.code yJ15_checkIndex_7cf53 cJ15_checkIndex_7cf53 2 (some .int), Cond.methodLink RJ15 105 yJ3_checkIndex_8e157, Cond.static yJ3_checkIndex_8e157, Cond.initialized RJ3, Cond.code yJ3_checkIndex_8e157 cJ3_checkIndex_8e157 3 (some .int), Cond.methodLink RJx4a65c 123 yJx4a65c_elementData_915e3, Cond.instanceMethod yJx4a65c_elementData_915e3, Cond.selects RJx4a65c yJx4a65c_elementData_915e3 yJx4a65c_elementData_915e3, Cond.code yJx4a65c_elementData_915e3 cJx4a65c_elementData_915e3 2 (some (.object "java/lang/Object"))]
def wsX5_shipOf_r2 : List Cond := [Cond.fieldLink RJx4a65c 9 "java/util/ArrayList" "elementData" "[Ljava/lang/Object;"]
def wsX5_shipOf : List Cond := .code yX5_shipOf cX5_shipOf 2 (some (.object "TeaRace$Ship")) :: ((wsX5_shipOf_r1 ++ wsX5_shipOf_r2) ++ wsX50 ++ wsJx4a65c0)
def wsX5_foul_r1 : List Cond := [Cond.fieldLink RX5 126 "TeaRace$Ship" "foulness" "I", Cond.methodLink RX5 122 yX5_shipOf, Cond.instanceMethod yX5_shipOf, Cond.selects RX5 yX5_shipOf yX5_shipOf, Cond.initialized RX5, Cond.code yX5_shipOf cX5_shipOf 2 (some (.object "TeaRace$Ship")), Cond.fieldLink RX5 26 "TeaRace" "fleet" "Ljava/util/List;", Cond.classLink RX5 113 "TeaRace$Ship", Cond.methodLink RX5 107 ⟨"java/util/List", "size", "()I"⟩, Cond.selects RJx4a65c ⟨"java/util/List", "size", "()I"⟩ yJx4a65c_size_8abf5, Cond.instanceMethod yJx4a65c_size_8abf5, Cond.initialized RJx4a65c, Cond.code yJx4a65c_size_8abf5 cJx4a65c_size_8abf5 1 (some .int), Cond.fieldLink RJx4a65c 48 "java/util/ArrayList" "size" "I", Cond.methodLink RX5 175 ⟨"java/util/List", "get", "(I)Ljava/lang/Object;"⟩, Cond.selects RJx4a65c ⟨"java/util/List", "get", "(I)Ljava/lang/Object;"⟩ yJx4a65c_get_915e3, Cond.instanceMethod yJx4a65c_get_915e3, Cond.code yJx4a65c_get_915e3 cJx4a65c_get_915e3 2 (some (.object "java/lang/Object")), Cond.methodLink RJx4a65c 118 yJ15_checkIndex_7cf53, Cond.static yJ15_checkIndex_7cf53, Cond.initialized RJ15, Cond.code yJ15_checkIndex_7cf53 cJ15_checkIndex_7cf53 2 (some .int), Cond.methodLink RJ15 105 yJ3_checkIndex_8e157, Cond.static yJ3_checkIndex_8e157]
def wsX5_foul_r2 : List Cond := [Cond.initialized RJ3, Cond.code yJ3_checkIndex_8e157 cJ3_checkIndex_8e157 3 (some .int), Cond.methodLink RJx4a65c 123 yJx4a65c_elementData_915e3, Cond.instanceMethod yJx4a65c_elementData_915e3, Cond.selects RJx4a65c yJx4a65c_elementData_915e3 yJx4a65c_elementData_915e3, Cond.code yJx4a65c_elementData_915e3 cJx4a65c_elementData_915e3 2 (some (.object "java/lang/Object")), Cond.fieldLink RJx4a65c 9 "java/util/ArrayList" "elementData" "[Ljava/lang/Object;", Cond.methodLink RX5 60 yX5_outside, Cond.static yX5_outside, Cond.code yX5_outside cX5_outside 2 (some .boolean)]
def wsX5_foul : List Cond := .code yX5_foul cX5_foul 5 (some .int) :: ((wsX5_foul_r1 ++ wsX5_foul_r2) ++ wsX30 ++ wsX50 ++ wsJx4a65c0)
def wsX5_told_r1 : List Cond := [Cond.fieldLink RX5 129 "TeaRace$Ship" "kind" "I", Cond.fieldLink RX5 132 "TeaRace$Ship" "cell" "I", Cond.fieldLink RX5 135 "TeaRace$Ship" "gone" "I", Cond.fieldLink RX5 138 "TeaRace$Ship" "way" "I", Cond.fieldLink RX5 141 "TeaRace$Ship" "homeHour" "I", Cond.fieldLink RX5 144 "TeaRace$Ship" "entry" "I", Cond.fieldLink RX5 147 "TeaRace$Ship" "chests" "I", Cond.methodLink RX5 122 yX5_shipOf, Cond.instanceMethod yX5_shipOf, Cond.selects RX5 yX5_shipOf yX5_shipOf, Cond.initialized RX5, Cond.code yX5_shipOf cX5_shipOf 2 (some (.object "TeaRace$Ship")), Cond.fieldLink RX5 26 "TeaRace" "fleet" "Ljava/util/List;", Cond.classLink RX5 113 "TeaRace$Ship", Cond.methodLink RX5 107 ⟨"java/util/List", "size", "()I"⟩, Cond.selects RJx4a65c ⟨"java/util/List", "size", "()I"⟩ yJx4a65c_size_8abf5, Cond.instanceMethod yJx4a65c_size_8abf5, Cond.initialized RJx4a65c, Cond.code yJx4a65c_size_8abf5 cJx4a65c_size_8abf5 1 (some .int), Cond.fieldLink RJx4a65c 48 "java/util/ArrayList" "size" "I", Cond.methodLink RX5 175 ⟨"java/util/List", "get", "(I)Ljava/lang/Object;"⟩, Cond.selects RJx4a65c ⟨"java/util/List", "get", "(I)Ljava/lang/Object;"⟩ yJx4a65c_get_915e3, Cond.instanceMethod yJx4a65c_get_915e3, Cond.code yJx4a65c_get_915e3 cJx4a65c_get_915e3 2 (some (.object "java/lang/Object"))]
def wsX5_told_r2 : List Cond := [Cond.methodLink RJx4a65c 118 yJ15_checkIndex_7cf53, Cond.static yJ15_checkIndex_7cf53, Cond.initialized RJ15, Cond.code yJ15_checkIndex_7cf53 cJ15_checkIndex_7cf53 2 (some .int), Cond.methodLink RJ15 105 yJ3_checkIndex_8e157, Cond.static yJ3_checkIndex_8e157, Cond.initialized RJ3, Cond.code yJ3_checkIndex_8e157 cJ3_checkIndex_8e157 3 (some .int), Cond.methodLink RJx4a65c 123 yJx4a65c_elementData_915e3, Cond.instanceMethod yJx4a65c_elementData_915e3, Cond.selects RJx4a65c yJx4a65c_elementData_915e3 yJx4a65c_elementData_915e3, Cond.code yJx4a65c_elementData_915e3 cJx4a65c_elementData_915e3 2 (some (.object "java/lang/Object")), Cond.fieldLink RJx4a65c 9 "java/util/ArrayList" "elementData" "[Ljava/lang/Object;"]
def wsX5_told : List Cond := .code yX5_told cX5_told 4 (some .int) :: ((wsX5_told_r1 ++ wsX5_told_r2) ++ wsX30 ++ wsX50 ++ wsJx4a65c0)
def wsX5_mark_r1 : List Cond := [Cond.fieldLink RX5 153 "TeaRace$Ship" "orders" "Ljava/util/List;", Cond.fieldLink RX5 138 "TeaRace$Ship" "way" "I", Cond.fieldLink RX5 159 "TeaRace$Ship" "cellsComeTo" "I", Cond.methodLink RX5 122 yX5_shipOf, Cond.instanceMethod yX5_shipOf, Cond.selects RX5 yX5_shipOf yX5_shipOf, Cond.initialized RX5, Cond.code yX5_shipOf cX5_shipOf 2 (some (.object "TeaRace$Ship")), Cond.fieldLink RX5 26 "TeaRace" "fleet" "Ljava/util/List;", Cond.classLink RX5 113 "TeaRace$Ship", Cond.methodLink RX5 107 ⟨"java/util/List", "size", "()I"⟩, Cond.selects RJx4a65c ⟨"java/util/List", "size", "()I"⟩ yJx4a65c_size_8abf5, Cond.instanceMethod yJx4a65c_size_8abf5, Cond.initialized RJx4a65c, Cond.code yJx4a65c_size_8abf5 cJx4a65c_size_8abf5 1 (some .int), Cond.fieldLink RJx4a65c 48 "java/util/ArrayList" "size" "I", Cond.methodLink RX5 175 ⟨"java/util/List", "get", "(I)Ljava/lang/Object;"⟩, Cond.selects RJx4a65c ⟨"java/util/List", "get", "(I)Ljava/lang/Object;"⟩ yJx4a65c_get_915e3, Cond.instanceMethod yJx4a65c_get_915e3, Cond.code yJx4a65c_get_915e3 cJx4a65c_get_915e3 2 (some (.object "java/lang/Object")), Cond.methodLink RJx4a65c 118 yJ15_checkIndex_7cf53, Cond.static yJ15_checkIndex_7cf53, Cond.initialized RJ15, Cond.code yJ15_checkIndex_7cf53 cJ15_checkIndex_7cf53 2 (some .int)]
def wsX5_mark_r2 : List Cond := [Cond.methodLink RJ15 105 yJ3_checkIndex_8e157, Cond.static yJ3_checkIndex_8e157, Cond.initialized RJ3, Cond.code yJ3_checkIndex_8e157 cJ3_checkIndex_8e157 3 (some .int), Cond.methodLink RJx4a65c 123 yJx4a65c_elementData_915e3, Cond.instanceMethod yJx4a65c_elementData_915e3, Cond.selects RJx4a65c yJx4a65c_elementData_915e3 yJx4a65c_elementData_915e3, Cond.code yJx4a65c_elementData_915e3 cJx4a65c_elementData_915e3 2 (some (.object "java/lang/Object")), Cond.fieldLink RJx4a65c 9 "java/util/ArrayList" "elementData" "[Ljava/lang/Object;", Cond.methodLink RX5 150 yX3_isOf, Cond.instanceMethod yX3_isOf, Cond.selects RX3 yX3_isOf yX3_isOf, Cond.initialized RX3, Cond.code yX3_isOf cX3_isOf 2 (some .boolean), Cond.fieldLink RX3 49 "TeaRace$Ship" "kind" "I", Cond.methodLink RX5 79 yX5_found, Cond.instanceMethod yX5_found, Cond.selects RX5 yX5_found yX5_found, Cond.code yX5_found cX5_found 2 (some .int), Cond.fieldLink RX5 34 "TeaRace" "latestFinding" "I", Cond.fieldLink RX5 30 "TeaRace" "findingCounts" "[I", Cond.methodLink RX5 156 yX3_speedIn, Cond.instanceMethod yX3_speedIn, Cond.selects RX3 yX3_speedIn yX3_speedIn]
def wsX5_mark_r3 : List Cond := [Cond.code yX3_speedIn cX3_speedIn 4 (some .int), Cond.fieldLink RX3 28 "TeaRace$Ship" "foulness" "I", Cond.methodLink RX3 69 Lib.Math.max.name, Cond.static Lib.Math.max.name, Cond.initialized "java/lang/Math", Cond.code Lib.Math.max.name Lib.Math.max.code 2 (some .int), Cond.static yX5_eighthsBetween, Cond.code yX5_eighthsBetween cX5_eighthsBetween 3 (some .int), Cond.methodLink RX5 251 Lib.Math.abs.name, Cond.static Lib.Math.abs.name, Cond.code Lib.Math.abs.name Lib.Math.abs.code 1 (some .int), Cond.methodLink RX5 256 Lib.Math.min.name, Cond.static Lib.Math.min.name, Cond.code Lib.Math.min.name Lib.Math.min.code 2 (some .int), Cond.static yX5_strengthOf, Cond.code yX5_strengthOf cX5_strengthOf 1 (some .int), Cond.methodLink RX3 66 yX3_sailSpeed, Cond.instanceMethod yX3_sailSpeed, Cond.selects RX3 yX3_sailSpeed yX3_sailSpeed, Cond.code yX3_sailSpeed cX3_sailSpeed 3 (some .int), Cond.methodLink RX3 74 yX3_moreAcrossTheWind, Cond.instanceMethod yX3_moreAcrossTheWind, Cond.selects RX3 yX3_moreAcrossTheWind yX3_moreAcrossTheWind, Cond.code yX3_moreAcrossTheWind cX3_moreAcrossTheWind 1 (some .int)]
def wsX5_mark : List Cond := .code yX5_mark cX5_mark 4 (some .int) :: ((wsX5_mark_r1 ++ (wsX5_mark_r2 ++ wsX5_mark_r3)) ++ wsX30 ++ wsX50 ++ wsJx4a65c0)
def wsX5_speed_r1 : List Cond := [Cond.methodLink RX5 122 yX5_shipOf, Cond.instanceMethod yX5_shipOf, Cond.selects RX5 yX5_shipOf yX5_shipOf, Cond.initialized RX5, Cond.code yX5_shipOf cX5_shipOf 2 (some (.object "TeaRace$Ship")), Cond.fieldLink RX5 26 "TeaRace" "fleet" "Ljava/util/List;", Cond.classLink RX5 113 "TeaRace$Ship", Cond.methodLink RX5 107 ⟨"java/util/List", "size", "()I"⟩, Cond.selects RJx4a65c ⟨"java/util/List", "size", "()I"⟩ yJx4a65c_size_8abf5, Cond.instanceMethod yJx4a65c_size_8abf5, Cond.initialized RJx4a65c, Cond.code yJx4a65c_size_8abf5 cJx4a65c_size_8abf5 1 (some .int), Cond.fieldLink RJx4a65c 48 "java/util/ArrayList" "size" "I", Cond.methodLink RX5 175 ⟨"java/util/List", "get", "(I)Ljava/lang/Object;"⟩, Cond.selects RJx4a65c ⟨"java/util/List", "get", "(I)Ljava/lang/Object;"⟩ yJx4a65c_get_915e3, Cond.instanceMethod yJx4a65c_get_915e3, Cond.code yJx4a65c_get_915e3 cJx4a65c_get_915e3 2 (some (.object "java/lang/Object")), Cond.methodLink RJx4a65c 118 yJ15_checkIndex_7cf53, Cond.static yJ15_checkIndex_7cf53, Cond.initialized RJ15, Cond.code yJ15_checkIndex_7cf53 cJ15_checkIndex_7cf53 2 (some .int), Cond.methodLink RJ15 105 yJ3_checkIndex_8e157, Cond.static yJ3_checkIndex_8e157, Cond.initialized RJ3]
def wsX5_speed_r2 : List Cond := [Cond.code yJ3_checkIndex_8e157 cJ3_checkIndex_8e157 3 (some .int), Cond.methodLink RJx4a65c 123 yJx4a65c_elementData_915e3, Cond.instanceMethod yJx4a65c_elementData_915e3, Cond.selects RJx4a65c yJx4a65c_elementData_915e3 yJx4a65c_elementData_915e3, Cond.code yJx4a65c_elementData_915e3 cJx4a65c_elementData_915e3 2 (some (.object "java/lang/Object")), Cond.fieldLink RJx4a65c 9 "java/util/ArrayList" "elementData" "[Ljava/lang/Object;", Cond.methodLink RX5 60 yX5_outside, Cond.static yX5_outside, Cond.code yX5_outside cX5_outside 2 (some .boolean), Cond.methodLink RX5 156 yX3_speedIn, Cond.instanceMethod yX3_speedIn, Cond.selects RX3 yX3_speedIn yX3_speedIn, Cond.initialized RX3, Cond.code yX3_speedIn cX3_speedIn 4 (some .int), Cond.fieldLink RX3 49 "TeaRace$Ship" "kind" "I", Cond.fieldLink RX3 28 "TeaRace$Ship" "foulness" "I", Cond.methodLink RX3 69 Lib.Math.max.name, Cond.static Lib.Math.max.name, Cond.initialized "java/lang/Math", Cond.code Lib.Math.max.name Lib.Math.max.code 2 (some .int), Cond.static yX5_eighthsBetween, Cond.code yX5_eighthsBetween cX5_eighthsBetween 3 (some .int), Cond.methodLink RX5 251 Lib.Math.abs.name, Cond.static Lib.Math.abs.name]
def wsX5_speed_r3 : List Cond := [Cond.code Lib.Math.abs.name Lib.Math.abs.code 1 (some .int), Cond.methodLink RX5 256 Lib.Math.min.name, Cond.static Lib.Math.min.name, Cond.code Lib.Math.min.name Lib.Math.min.code 2 (some .int), Cond.static yX5_strengthOf, Cond.code yX5_strengthOf cX5_strengthOf 1 (some .int), Cond.methodLink RX3 66 yX3_sailSpeed, Cond.instanceMethod yX3_sailSpeed, Cond.selects RX3 yX3_sailSpeed yX3_sailSpeed, Cond.code yX3_sailSpeed cX3_sailSpeed 3 (some .int), Cond.methodLink RX3 74 yX3_moreAcrossTheWind, Cond.instanceMethod yX3_moreAcrossTheWind, Cond.selects RX3 yX3_moreAcrossTheWind yX3_moreAcrossTheWind, Cond.code yX3_moreAcrossTheWind cX3_moreAcrossTheWind 1 (some .int)]
def wsX5_speed : List Cond := .code yX5_speed cX5_speed 6 (some .int) :: ((wsX5_speed_r1 ++ (wsX5_speed_r2 ++ wsX5_speed_r3)) ++ wsX50 ++ wsJx4a65c0 ++ wsX30)
def wsX5_isNoSpan : List Cond := .code yX5_isNoSpan cX5_isNoSpan 3 (some .boolean) :: ([.methodLink RX5 60 yX5_outside, .static yX5_outside, .initialized RX5, .code yX5_outside cX5_outside 2 (some .boolean)])
def wsX5_order_r1 : List Cond := [Cond.fieldLink RX5 153 "TeaRace$Ship" "orders" "Ljava/util/List;", Cond.classLink RX5 166 RX0, Cond.instantiable RX0 6, Cond.initialized RX0, Cond.methodLink RX5 122 yX5_shipOf, Cond.instanceMethod yX5_shipOf, Cond.selects RX5 yX5_shipOf yX5_shipOf, Cond.initialized RX5, Cond.code yX5_shipOf cX5_shipOf 2 (some (.object "TeaRace$Ship")), Cond.fieldLink RX5 26 "TeaRace" "fleet" "Ljava/util/List;", Cond.classLink RX5 113 "TeaRace$Ship", Cond.methodLink RX5 107 ⟨"java/util/List", "size", "()I"⟩, Cond.selects RJx4a65c ⟨"java/util/List", "size", "()I"⟩ yJx4a65c_size_8abf5, Cond.instanceMethod yJx4a65c_size_8abf5, Cond.initialized RJx4a65c, Cond.code yJx4a65c_size_8abf5 cJx4a65c_size_8abf5 1 (some .int), Cond.fieldLink RJx4a65c 48 "java/util/ArrayList" "size" "I", Cond.methodLink RX5 175 ⟨"java/util/List", "get", "(I)Ljava/lang/Object;"⟩, Cond.selects RJx4a65c ⟨"java/util/List", "get", "(I)Ljava/lang/Object;"⟩ yJx4a65c_get_915e3, Cond.instanceMethod yJx4a65c_get_915e3, Cond.code yJx4a65c_get_915e3 cJx4a65c_get_915e3 2 (some (.object "java/lang/Object")), Cond.methodLink RJx4a65c 118 yJ15_checkIndex_7cf53, Cond.static yJ15_checkIndex_7cf53, Cond.initialized RJ15]
def wsX5_order_r2 : List Cond := [Cond.code yJ15_checkIndex_7cf53 cJ15_checkIndex_7cf53 2 (some .int), Cond.methodLink RJ15 105 yJ3_checkIndex_8e157, Cond.static yJ3_checkIndex_8e157, Cond.initialized RJ3, Cond.code yJ3_checkIndex_8e157 cJ3_checkIndex_8e157 3 (some .int), Cond.methodLink RJx4a65c 123 yJx4a65c_elementData_915e3, Cond.instanceMethod yJx4a65c_elementData_915e3, Cond.selects RJx4a65c yJx4a65c_elementData_915e3 yJx4a65c_elementData_915e3, Cond.code yJx4a65c_elementData_915e3 cJx4a65c_elementData_915e3 2 (some (.object "java/lang/Object")), Cond.fieldLink RJx4a65c 9 "java/util/ArrayList" "elementData" "[Ljava/lang/Object;", Cond.methodLink RX5 162 yX5_isNoSpan, Cond.static yX5_isNoSpan, Cond.code yX5_isNoSpan cX5_isNoSpan 3 (some .boolean), Cond.methodLink RX5 60 yX5_outside, Cond.static yX5_outside, Cond.code yX5_outside cX5_outside 2 (some .boolean), Cond.methodLink RX5 168 yX0_init, Cond.instanceMethod yX0_init, Cond.code yX0_init cX0_init 7 none, Cond.methodLink RX0 3 objectInit, Cond.instanceMethod objectInit, Cond.code objectInit ⟨#[0xb1]⟩ 1 none, Cond.fieldLink RX0 9 "TeaRace$Order" "west" "I", Cond.fieldLink RX0 15 "TeaRace$Order" "east" "I"]
def wsX5_order_r3 : List Cond := [Cond.fieldLink RX0 18 "TeaRace$Order" "north" "I", Cond.fieldLink RX0 21 "TeaRace$Order" "south" "I", Cond.fieldLink RX0 24 "TeaRace$Order" "strength" "I", Cond.fieldLink RX0 27 "TeaRace$Order" "way" "I", Cond.methodLink RX5 118 ⟨"java/util/List", "add", "(Ljava/lang/Object;)Z"⟩, Cond.selects RJx4a65c ⟨"java/util/List", "add", "(Ljava/lang/Object;)Z"⟩ yJx4a65c_add_9ea2d, Cond.instanceMethod yJx4a65c_add_9ea2d, Cond.code yJx4a65c_add_9ea2d cJx4a65c_add_9ea2d 2 (some .boolean), Cond.fieldLink RJx4a65c 63 "java/util/ArrayList" "modCount" "I", Cond.sameField "java/util/ArrayList" "java/util/AbstractList" "modCount" "I", Cond.methodLink RJx4a65c 131 yJx4a65c_add_72be8, Cond.instanceMethod yJx4a65c_add_72be8, Cond.selects RJx4a65c yJx4a65c_add_72be8 yJx4a65c_add_72be8, Cond.code yJx4a65c_add_72be8 cJx4a65c_add_72be8 4 none, Cond.methodLink RJx4a65c 129 yJx4a65c_grow_d5877, Cond.instanceMethod yJx4a65c_grow_d5877, Cond.selects RJx4a65c yJx4a65c_grow_d5877 yJx4a65c_grow_d5877, Cond.code yJx4a65c_grow_d5877 cJx4a65c_grow_d5877 1 (some (.array (.object "java/lang/Object"))), Cond.methodLink RJx4a65c 69 yJx4a65c_grow_92f84, Cond.instanceMethod yJx4a65c_grow_92f84, Cond.selects RJx4a65c yJx4a65c_grow_92f84 yJx4a65c_grow_92f84, Cond.code yJx4a65c_grow_92f84 cJx4a65c_grow_92f84 4 (some (.array (.object "java/lang/Object"))), Cond.fieldLink RJx4a65c 39 "java/util/ArrayList" "DEFAULTCAPACITY_EMPTY_ELEMENTDATA" "[Ljava/lang/Object;", Cond.methodLink RJx4a65c 79 Lib.Math.max.name]
def wsX5_order_r4 : List Cond := [Cond.static Lib.Math.max.name, Cond.initialized "java/lang/Math", Cond.code Lib.Math.max.name Lib.Math.max.code 2 (some .int), Cond.classLink RJx4a65c 7 "java/lang/Object", Cond.methodLink RJx4a65c 73 yJ8_newLength_cabcc, Cond.static yJ8_newLength_cabcc, Cond.initialized RJ8, Cond.code yJ8_newLength_cabcc cJ8_newLength_cabcc 4 (some .int), Cond.methodLink RJ8 194 Lib.Math.max.name, Cond.constant RJ8 200 (2147483639), Cond.methodLink RJ8 201 yJ8_hugeLength_7cf53, Cond.static yJ8_hugeLength_7cf53, Cond.code yJ8_hugeLength_7cf53 cJ8_hugeLength_7cf53 3 (some .int), Cond.methodLink RJx4a65c 66 yJ7_copyOf_1904c, Cond.static yJ7_copyOf_1904c, Cond.initialized RJ7, Cond.code yJ7_copyOf_1904c cJ7_copyOf_1904c 2 (some (.array (.object "java/lang/Object"))), Cond.methodLink RJ7 86 ⟨"java/lang/Object", "getClass", "()Ljava/lang/Class;"⟩, Cond.selects "[Ljava/lang/Object;" ⟨"java/lang/Object", "getClass", "()Ljava/lang/Class;"⟩ ⟨"java/lang/Object", "getClass", "()Ljava/lang/Class;"⟩, Cond.instanceMethod ⟨"java/lang/Object", "getClass", "()Ljava/lang/Class;"⟩, Cond.native ⟨"java/lang/Object", "getClass", "()Ljava/lang/Class;"⟩, Cond.methodLink RJ7 300 yJ7_copyOf_6403c, Cond.static yJ7_copyOf_6403c, Cond.code yJ7_copyOf_6403c cJ7_copyOf_6403c 4 (some (.array (.object "java/lang/Object")))]
def wsX5_order_r5 : List Cond := [Cond.classLink RJ7 110 "[Ljava/lang/Object;", Cond.classLink RJ7 2 "java/lang/Object", Cond.methodLink RJ7 304 Lib.Math.min.name, Cond.static Lib.Math.min.name, Cond.code Lib.Math.min.name Lib.Math.min.code 2 (some .int), Cond.methodLink RJ7 150 arraycopyName, Cond.native arraycopyName, Cond.static arraycopyName, Cond.initialized "java/lang/System"]
def wsX5_order : List Cond := .code yX5_order cX5_order 9 (some .int) :: ((wsX5_order_r1 ++ (wsX5_order_r2 ++ (wsX5_order_r3 ++ (wsX5_order_r4 ++ wsX5_order_r5)))) ++ wsX30 ++ wsX00 ++ wsX50 ++ wsJx4a65c0)
def wsX5_home : List Cond := .code yX5_home cX5_home 3 (some .int) :: ([.fieldLink RX5 38 "TeaRace" "hour" "I", .fieldLink RX5 41 "TeaRace" "homeCell" "I", .fieldLink RX5 44 "TeaRace" "gateHour" "I", .methodLink RX5 104 yX5_isNoWater, .instanceMethod yX5_isNoWater, .selects RX5 yX5_isNoWater yX5_isNoWater, .initialized RX5, .code yX5_isNoWater cX5_isNoWater 2 (some .boolean), .fieldLink RX5 10 "TeaRace" "sea" "LTeaRace$Sea;", .methodLink RX5 60 yX5_outside, .static yX5_outside, .code yX5_outside cX5_outside 2 (some .boolean), .methodLink RX5 64 yX2_isLand, .instanceMethod yX2_isLand, .selects RX2 yX2_isLand yX2_isLand, .initialized RX2, .code yX2_isLand cX2_isLand 2 (some .boolean), .fieldLink RX2 9 "TeaRace$Sea" "landCells" "[Z"] ++ wsX50 ++ wsX20)
def wsX5_shipsHome_r1 : List Cond := [Cond.fieldLink RX5 26 "TeaRace" "fleet" "Ljava/util/List;", Cond.classLink RX5 113 "TeaRace$Ship", Cond.methodLink RX5 107 ⟨"java/util/List", "size", "()I"⟩, Cond.selects RJx4a65c ⟨"java/util/List", "size", "()I"⟩ yJx4a65c_size_8abf5, Cond.instanceMethod yJx4a65c_size_8abf5, Cond.initialized RJx4a65c, Cond.code yJx4a65c_size_8abf5 cJx4a65c_size_8abf5 1 (some .int), Cond.fieldLink RJx4a65c 48 "java/util/ArrayList" "size" "I", Cond.methodLink RX5 175 ⟨"java/util/List", "get", "(I)Ljava/lang/Object;"⟩, Cond.selects RJx4a65c ⟨"java/util/List", "get", "(I)Ljava/lang/Object;"⟩ yJx4a65c_get_915e3, Cond.instanceMethod yJx4a65c_get_915e3, Cond.code yJx4a65c_get_915e3 cJx4a65c_get_915e3 2 (some (.object "java/lang/Object")), Cond.methodLink RJx4a65c 118 yJ15_checkIndex_7cf53, Cond.static yJ15_checkIndex_7cf53, Cond.initialized RJ15, Cond.code yJ15_checkIndex_7cf53 cJ15_checkIndex_7cf53 2 (some .int), Cond.methodLink RJ15 105 yJ3_checkIndex_8e157, Cond.static yJ3_checkIndex_8e157, Cond.initialized RJ3, Cond.code yJ3_checkIndex_8e157 cJ3_checkIndex_8e157 3 (some .int), Cond.methodLink RJx4a65c 123 yJx4a65c_elementData_915e3, Cond.instanceMethod yJx4a65c_elementData_915e3, Cond.selects RJx4a65c yJx4a65c_elementData_915e3 yJx4a65c_elementData_915e3, Cond.code yJx4a65c_elementData_915e3 cJx4a65c_elementData_915e3 2 (some (.object "java/lang/Object"))]
def wsX5_shipsHome_r2 : List Cond := [Cond.fieldLink RJx4a65c 9 "java/util/ArrayList" "elementData" "[Ljava/lang/Object;", Cond.methodLink RX5 222 yX3_isHome, Cond.instanceMethod yX3_isHome, Cond.selects RX3 yX3_isHome yX3_isHome, Cond.initialized RX3, Cond.code yX3_isHome cX3_isHome 1 (some .boolean), Cond.fieldLink RX3 34 "TeaRace$Ship" "homeHour" "I"]
def wsX5_shipsHome : List Cond := .code yX5_shipsHome cX5_shipsHome 3 (some .int) :: ((wsX5_shipsHome_r1 ++ wsX5_shipsHome_r2) ++ wsX50 ++ wsJx4a65c0 ++ wsX30)
def wsX5_entryFrom : List Cond := .code yX5_entryFrom cX5_entryFrom 3 (some .int) :: ([.fieldLink RX5 44 "TeaRace" "gateHour" "I", .methodLink RX5 259 yJ9_floorMod_7cf53, .static yJ9_floorMod_7cf53, .initialized RJ9, .code yJ9_floorMod_7cf53 cJ9_floorMod_7cf53 3 (some .int)] ++ wsX50)
def wsX5_comeTo_r1 : List Cond := [Cond.fieldLink RX5 132 "TeaRace$Ship" "cell" "I", Cond.fieldLink RX5 159 "TeaRace$Ship" "cellsComeTo" "I", Cond.fieldLink RX5 10 "TeaRace" "sea" "LTeaRace$Sea;", Cond.fieldLink RX5 41 "TeaRace" "homeCell" "I", Cond.fieldLink RX5 141 "TeaRace$Ship" "homeHour" "I", Cond.fieldLink RX5 144 "TeaRace$Ship" "entry" "I", Cond.methodLink RX5 262 yX5_monthOf, Cond.static yX5_monthOf, Cond.initialized RX5, Cond.code yX5_monthOf cX5_monthOf 1 (some .int), Cond.methodLink RX5 259 yJ9_floorMod_7cf53, Cond.static yJ9_floorMod_7cf53, Cond.initialized RJ9, Cond.code yJ9_floorMod_7cf53 cJ9_floorMod_7cf53 3 (some .int), Cond.methodLink RX5 98 yX2_windIn, Cond.instanceMethod yX2_windIn, Cond.selects RX2 yX2_windIn yX2_windIn, Cond.initialized RX2, Cond.code yX2_windIn cX2_windIn 4 (some .int), Cond.fieldLink RX2 15 "TeaRace$Sea" "chartThere" "[Z", Cond.fieldLink RX2 20 "TeaRace$Sea" "charts" "[[B", Cond.static yX5_outside, Cond.code yX5_outside cX5_outside 2 (some .boolean), Cond.methodLink RX5 265 yX3_askWay]
def wsX5_comeTo_r2 : List Cond := [Cond.instanceMethod yX3_askWay, Cond.selects RX3 yX3_askWay yX3_askWay, Cond.initialized RX3, Cond.code yX3_askWay cX3_askWay 4 none, Cond.fieldLink RX3 12 "TeaRace$Ship" "orders" "Ljava/util/List;", Cond.classLink RX3 87 "TeaRace$Order", Cond.fieldLink RX3 52 "TeaRace$Ship" "cell" "I", Cond.fieldLink RX3 93 "TeaRace$Order" "way" "I", Cond.fieldLink RX3 25 "TeaRace$Ship" "way" "I", Cond.methodLink RX3 78 ⟨"java/util/List", "size", "()I"⟩, Cond.selects RJx4a65c ⟨"java/util/List", "size", "()I"⟩ yJx4a65c_size_8abf5, Cond.instanceMethod yJx4a65c_size_8abf5, Cond.initialized RJx4a65c, Cond.code yJx4a65c_size_8abf5 cJx4a65c_size_8abf5 1 (some .int), Cond.fieldLink RJx4a65c 48 "java/util/ArrayList" "size" "I", Cond.methodLink RX3 83 ⟨"java/util/List", "get", "(I)Ljava/lang/Object;"⟩, Cond.selects RJx4a65c ⟨"java/util/List", "get", "(I)Ljava/lang/Object;"⟩ yJx4a65c_get_915e3, Cond.instanceMethod yJx4a65c_get_915e3, Cond.code yJx4a65c_get_915e3 cJx4a65c_get_915e3 2 (some (.object "java/lang/Object")), Cond.methodLink RJx4a65c 118 yJ15_checkIndex_7cf53, Cond.static yJ15_checkIndex_7cf53, Cond.initialized RJ15, Cond.code yJ15_checkIndex_7cf53 cJ15_checkIndex_7cf53 2 (some .int), Cond.methodLink RJ15 105 yJ3_checkIndex_8e157]
def wsX5_comeTo_r3 : List Cond := [Cond.static yJ3_checkIndex_8e157, Cond.initialized RJ3, Cond.code yJ3_checkIndex_8e157 cJ3_checkIndex_8e157 3 (some .int), Cond.methodLink RJx4a65c 123 yJx4a65c_elementData_915e3, Cond.instanceMethod yJx4a65c_elementData_915e3, Cond.selects RJx4a65c yJx4a65c_elementData_915e3 yJx4a65c_elementData_915e3, Cond.code yJx4a65c_elementData_915e3 cJx4a65c_elementData_915e3 2 (some (.object "java/lang/Object")), Cond.fieldLink RJx4a65c 9 "java/util/ArrayList" "elementData" "[Ljava/lang/Object;", Cond.static yX5_strengthOf, Cond.code yX5_strengthOf cX5_strengthOf 1 (some .int), Cond.methodLink RX3 89 yX0_fits, Cond.instanceMethod yX0_fits, Cond.selects RX0 yX0_fits yX0_fits, Cond.initialized RX0, Cond.code yX0_fits cX0_fits 5 (some .boolean), Cond.fieldLink RX0 9 "TeaRace$Order" "west" "I", Cond.fieldLink RX0 15 "TeaRace$Order" "east" "I", Cond.fieldLink RX0 18 "TeaRace$Order" "north" "I", Cond.fieldLink RX0 21 "TeaRace$Order" "south" "I", Cond.fieldLink RX0 24 "TeaRace$Order" "strength" "I", Cond.methodLink RX5 281 yX5_entryFrom, Cond.instanceMethod yX5_entryFrom, Cond.selects RX5 yX5_entryFrom yX5_entryFrom, Cond.code yX5_entryFrom cX5_entryFrom 3 (some .int)]
def wsX5_comeTo_r4 : List Cond := [Cond.fieldLink RX5 44 "TeaRace" "gateHour" "I"]
def wsX5_comeTo : List Cond := .code yX5_comeTo cX5_comeTo 4 none :: ((wsX5_comeTo_r1 ++ (wsX5_comeTo_r2 ++ (wsX5_comeTo_r3 ++ wsX5_comeTo_r4))) ++ wsX30 ++ wsX50 ++ wsX20 ++ wsX00 ++ wsJx4a65c0)
def wsX5_moveOn_r1 : List Cond := [Cond.fieldLink RX5 135 "TeaRace$Ship" "gone" "I", Cond.fieldLink RX5 138 "TeaRace$Ship" "way" "I", Cond.fieldLink RX5 10 "TeaRace" "sea" "LTeaRace$Sea;", Cond.fieldLink RX5 132 "TeaRace$Ship" "cell" "I", Cond.methodLink RX5 268 yX5_needOf, Cond.static yX5_needOf, Cond.initialized RX5, Cond.code yX5_needOf cX5_needOf 1 (some .int), Cond.methodLink RX5 222 yX3_isHome, Cond.instanceMethod yX3_isHome, Cond.selects RX3 yX3_isHome yX3_isHome, Cond.initialized RX3, Cond.code yX3_isHome cX3_isHome 1 (some .boolean), Cond.fieldLink RX3 34 "TeaRace$Ship" "homeHour" "I", Cond.methodLink RX5 274 yX2_nextCell, Cond.instanceMethod yX2_nextCell, Cond.selects RX2 yX2_nextCell yX2_nextCell, Cond.initialized RX2, Cond.code yX2_nextCell cX2_nextCell 6 (some .int), Cond.static yX5_outside, Cond.code yX5_outside cX5_outside 2 (some .boolean), Cond.methodLink RX2 50 yX2_isLand, Cond.instanceMethod yX2_isLand, Cond.selects RX2 yX2_isLand yX2_isLand]
def wsX5_moveOn_r2 : List Cond := [Cond.code yX2_isLand cX2_isLand 2 (some .boolean), Cond.fieldLink RX2 9 "TeaRace$Sea" "landCells" "[Z", Cond.methodLink RX5 277 yX5_comeTo, Cond.instanceMethod yX5_comeTo, Cond.selects RX5 yX5_comeTo yX5_comeTo, Cond.code yX5_comeTo cX5_comeTo 4 none, Cond.fieldLink RX5 159 "TeaRace$Ship" "cellsComeTo" "I", Cond.fieldLink RX5 41 "TeaRace" "homeCell" "I", Cond.fieldLink RX5 141 "TeaRace$Ship" "homeHour" "I", Cond.fieldLink RX5 144 "TeaRace$Ship" "entry" "I", Cond.methodLink RX5 262 yX5_monthOf, Cond.static yX5_monthOf, Cond.code yX5_monthOf cX5_monthOf 1 (some .int), Cond.methodLink RX5 259 yJ9_floorMod_7cf53, Cond.static yJ9_floorMod_7cf53, Cond.initialized RJ9, Cond.code yJ9_floorMod_7cf53 cJ9_floorMod_7cf53 3 (some .int), Cond.methodLink RX5 98 yX2_windIn, Cond.instanceMethod yX2_windIn, Cond.selects RX2 yX2_windIn yX2_windIn, Cond.code yX2_windIn cX2_windIn 4 (some .int), Cond.fieldLink RX2 15 "TeaRace$Sea" "chartThere" "[Z", Cond.fieldLink RX2 20 "TeaRace$Sea" "charts" "[[B", Cond.methodLink RX5 265 yX3_askWay]
def wsX5_moveOn_r3 : List Cond := [Cond.instanceMethod yX3_askWay, Cond.selects RX3 yX3_askWay yX3_askWay, Cond.code yX3_askWay cX3_askWay 4 none, Cond.fieldLink RX3 12 "TeaRace$Ship" "orders" "Ljava/util/List;", Cond.classLink RX3 87 "TeaRace$Order", Cond.fieldLink RX3 52 "TeaRace$Ship" "cell" "I", Cond.fieldLink RX3 93 "TeaRace$Order" "way" "I", Cond.fieldLink RX3 25 "TeaRace$Ship" "way" "I", Cond.methodLink RX3 78 ⟨"java/util/List", "size", "()I"⟩, Cond.selects RJx4a65c ⟨"java/util/List", "size", "()I"⟩ yJx4a65c_size_8abf5, Cond.instanceMethod yJx4a65c_size_8abf5, Cond.initialized RJx4a65c, Cond.code yJx4a65c_size_8abf5 cJx4a65c_size_8abf5 1 (some .int), Cond.fieldLink RJx4a65c 48 "java/util/ArrayList" "size" "I", Cond.methodLink RX3 83 ⟨"java/util/List", "get", "(I)Ljava/lang/Object;"⟩, Cond.selects RJx4a65c ⟨"java/util/List", "get", "(I)Ljava/lang/Object;"⟩ yJx4a65c_get_915e3, Cond.instanceMethod yJx4a65c_get_915e3, Cond.code yJx4a65c_get_915e3 cJx4a65c_get_915e3 2 (some (.object "java/lang/Object")), Cond.methodLink RJx4a65c 118 yJ15_checkIndex_7cf53, Cond.static yJ15_checkIndex_7cf53, Cond.initialized RJ15, Cond.code yJ15_checkIndex_7cf53 cJ15_checkIndex_7cf53 2 (some .int), Cond.methodLink RJ15 105 yJ3_checkIndex_8e157, Cond.static yJ3_checkIndex_8e157]
def wsX5_moveOn_r4 : List Cond := [Cond.initialized RJ3, Cond.code yJ3_checkIndex_8e157 cJ3_checkIndex_8e157 3 (some .int), Cond.methodLink RJx4a65c 123 yJx4a65c_elementData_915e3, Cond.instanceMethod yJx4a65c_elementData_915e3, Cond.selects RJx4a65c yJx4a65c_elementData_915e3 yJx4a65c_elementData_915e3, Cond.code yJx4a65c_elementData_915e3 cJx4a65c_elementData_915e3 2 (some (.object "java/lang/Object")), Cond.fieldLink RJx4a65c 9 "java/util/ArrayList" "elementData" "[Ljava/lang/Object;", Cond.static yX5_strengthOf, Cond.code yX5_strengthOf cX5_strengthOf 1 (some .int), Cond.methodLink RX3 89 yX0_fits, Cond.instanceMethod yX0_fits, Cond.selects RX0 yX0_fits yX0_fits, Cond.initialized RX0, Cond.code yX0_fits cX0_fits 5 (some .boolean), Cond.fieldLink RX0 9 "TeaRace$Order" "west" "I", Cond.fieldLink RX0 15 "TeaRace$Order" "east" "I", Cond.fieldLink RX0 18 "TeaRace$Order" "north" "I", Cond.fieldLink RX0 21 "TeaRace$Order" "south" "I", Cond.fieldLink RX0 24 "TeaRace$Order" "strength" "I", Cond.methodLink RX5 281 yX5_entryFrom, Cond.instanceMethod yX5_entryFrom, Cond.selects RX5 yX5_entryFrom yX5_entryFrom, Cond.code yX5_entryFrom cX5_entryFrom 3 (some .int), Cond.fieldLink RX5 44 "TeaRace" "gateHour" "I"]
def wsX5_moveOn : List Cond := .code yX5_moveOn cX5_moveOn 5 none :: ((wsX5_moveOn_r1 ++ (wsX5_moveOn_r2 ++ (wsX5_moveOn_r3 ++ wsX5_moveOn_r4))) ++ wsX30 ++ wsX50 ++ wsX20 ++ wsX00 ++ wsJx4a65c0)
def wsX5_sail_r1 : List Cond := [Cond.fieldLink RX5 38 "TeaRace" "hour" "I", Cond.fieldLink RX5 10 "TeaRace" "sea" "LTeaRace$Sea;", Cond.fieldLink RX5 132 "TeaRace$Ship" "cell" "I", Cond.fieldLink RX5 138 "TeaRace$Ship" "way" "I", Cond.fieldLink RX5 135 "TeaRace$Ship" "gone" "I", Cond.methodLink RX5 222 yX3_isHome, Cond.instanceMethod yX3_isHome, Cond.selects RX3 yX3_isHome yX3_isHome, Cond.initialized RX3, Cond.code yX3_isHome cX3_isHome 1 (some .boolean), Cond.fieldLink RX3 34 "TeaRace$Ship" "homeHour" "I", Cond.methodLink RX5 262 yX5_monthOf, Cond.static yX5_monthOf, Cond.initialized RX5, Cond.code yX5_monthOf cX5_monthOf 1 (some .int), Cond.methodLink RX5 259 yJ9_floorMod_7cf53, Cond.static yJ9_floorMod_7cf53, Cond.initialized RJ9, Cond.code yJ9_floorMod_7cf53 cJ9_floorMod_7cf53 3 (some .int), Cond.methodLink RX5 98 yX2_windIn, Cond.instanceMethod yX2_windIn, Cond.selects RX2 yX2_windIn yX2_windIn, Cond.initialized RX2, Cond.code yX2_windIn cX2_windIn 4 (some .int)]
def wsX5_sail_r2 : List Cond := [Cond.fieldLink RX2 15 "TeaRace$Sea" "chartThere" "[Z", Cond.fieldLink RX2 20 "TeaRace$Sea" "charts" "[[B", Cond.static yX5_outside, Cond.code yX5_outside cX5_outside 2 (some .boolean), Cond.methodLink RX5 265 yX3_askWay, Cond.instanceMethod yX3_askWay, Cond.selects RX3 yX3_askWay yX3_askWay, Cond.code yX3_askWay cX3_askWay 4 none, Cond.fieldLink RX3 12 "TeaRace$Ship" "orders" "Ljava/util/List;", Cond.classLink RX3 87 "TeaRace$Order", Cond.fieldLink RX3 52 "TeaRace$Ship" "cell" "I", Cond.fieldLink RX3 93 "TeaRace$Order" "way" "I", Cond.fieldLink RX3 25 "TeaRace$Ship" "way" "I", Cond.methodLink RX3 78 ⟨"java/util/List", "size", "()I"⟩, Cond.selects RJx4a65c ⟨"java/util/List", "size", "()I"⟩ yJx4a65c_size_8abf5, Cond.instanceMethod yJx4a65c_size_8abf5, Cond.initialized RJx4a65c, Cond.code yJx4a65c_size_8abf5 cJx4a65c_size_8abf5 1 (some .int), Cond.fieldLink RJx4a65c 48 "java/util/ArrayList" "size" "I", Cond.methodLink RX3 83 ⟨"java/util/List", "get", "(I)Ljava/lang/Object;"⟩, Cond.selects RJx4a65c ⟨"java/util/List", "get", "(I)Ljava/lang/Object;"⟩ yJx4a65c_get_915e3, Cond.instanceMethod yJx4a65c_get_915e3, Cond.code yJx4a65c_get_915e3 cJx4a65c_get_915e3 2 (some (.object "java/lang/Object")), Cond.methodLink RJx4a65c 118 yJ15_checkIndex_7cf53]
def wsX5_sail_r3 : List Cond := [Cond.static yJ15_checkIndex_7cf53, Cond.initialized RJ15, Cond.code yJ15_checkIndex_7cf53 cJ15_checkIndex_7cf53 2 (some .int), Cond.methodLink RJ15 105 yJ3_checkIndex_8e157, Cond.static yJ3_checkIndex_8e157, Cond.initialized RJ3, Cond.code yJ3_checkIndex_8e157 cJ3_checkIndex_8e157 3 (some .int), Cond.methodLink RJx4a65c 123 yJx4a65c_elementData_915e3, Cond.instanceMethod yJx4a65c_elementData_915e3, Cond.selects RJx4a65c yJx4a65c_elementData_915e3 yJx4a65c_elementData_915e3, Cond.code yJx4a65c_elementData_915e3 cJx4a65c_elementData_915e3 2 (some (.object "java/lang/Object")), Cond.fieldLink RJx4a65c 9 "java/util/ArrayList" "elementData" "[Ljava/lang/Object;", Cond.static yX5_strengthOf, Cond.code yX5_strengthOf cX5_strengthOf 1 (some .int), Cond.methodLink RX3 89 yX0_fits, Cond.instanceMethod yX0_fits, Cond.selects RX0 yX0_fits yX0_fits, Cond.initialized RX0, Cond.code yX0_fits cX0_fits 5 (some .boolean), Cond.fieldLink RX0 9 "TeaRace$Order" "west" "I", Cond.fieldLink RX0 15 "TeaRace$Order" "east" "I", Cond.fieldLink RX0 18 "TeaRace$Order" "north" "I", Cond.fieldLink RX0 21 "TeaRace$Order" "south" "I", Cond.fieldLink RX0 24 "TeaRace$Order" "strength" "I"]
def wsX5_sail_r4 : List Cond := [Cond.methodLink RX5 156 yX3_speedIn, Cond.instanceMethod yX3_speedIn, Cond.selects RX3 yX3_speedIn yX3_speedIn, Cond.code yX3_speedIn cX3_speedIn 4 (some .int), Cond.fieldLink RX3 49 "TeaRace$Ship" "kind" "I", Cond.fieldLink RX3 28 "TeaRace$Ship" "foulness" "I", Cond.methodLink RX3 69 Lib.Math.max.name, Cond.static Lib.Math.max.name, Cond.initialized "java/lang/Math", Cond.code Lib.Math.max.name Lib.Math.max.code 2 (some .int), Cond.static yX5_eighthsBetween, Cond.code yX5_eighthsBetween cX5_eighthsBetween 3 (some .int), Cond.methodLink RX5 251 Lib.Math.abs.name, Cond.static Lib.Math.abs.name, Cond.code Lib.Math.abs.name Lib.Math.abs.code 1 (some .int), Cond.methodLink RX5 256 Lib.Math.min.name, Cond.static Lib.Math.min.name, Cond.code Lib.Math.min.name Lib.Math.min.code 2 (some .int), Cond.methodLink RX3 66 yX3_sailSpeed, Cond.instanceMethod yX3_sailSpeed, Cond.selects RX3 yX3_sailSpeed yX3_sailSpeed, Cond.code yX3_sailSpeed cX3_sailSpeed 3 (some .int), Cond.methodLink RX3 74 yX3_moreAcrossTheWind, Cond.instanceMethod yX3_moreAcrossTheWind]
def wsX5_sail_r5 : List Cond := [Cond.selects RX3 yX3_moreAcrossTheWind yX3_moreAcrossTheWind, Cond.code yX3_moreAcrossTheWind cX3_moreAcrossTheWind 1 (some .int), Cond.methodLink RX5 268 yX5_needOf, Cond.static yX5_needOf, Cond.code yX5_needOf cX5_needOf 1 (some .int), Cond.methodLink RX5 271 yX5_moveOn, Cond.instanceMethod yX5_moveOn, Cond.selects RX5 yX5_moveOn yX5_moveOn, Cond.code yX5_moveOn cX5_moveOn 5 none, Cond.methodLink RX5 274 yX2_nextCell, Cond.instanceMethod yX2_nextCell, Cond.selects RX2 yX2_nextCell yX2_nextCell, Cond.code yX2_nextCell cX2_nextCell 6 (some .int), Cond.methodLink RX2 50 yX2_isLand, Cond.instanceMethod yX2_isLand, Cond.selects RX2 yX2_isLand yX2_isLand, Cond.code yX2_isLand cX2_isLand 2 (some .boolean), Cond.fieldLink RX2 9 "TeaRace$Sea" "landCells" "[Z", Cond.methodLink RX5 277 yX5_comeTo, Cond.instanceMethod yX5_comeTo, Cond.selects RX5 yX5_comeTo yX5_comeTo, Cond.code yX5_comeTo cX5_comeTo 4 none, Cond.fieldLink RX5 159 "TeaRace$Ship" "cellsComeTo" "I", Cond.fieldLink RX5 41 "TeaRace" "homeCell" "I"]
def wsX5_sail_r6 : List Cond := [Cond.fieldLink RX5 141 "TeaRace$Ship" "homeHour" "I", Cond.fieldLink RX5 144 "TeaRace$Ship" "entry" "I", Cond.methodLink RX5 281 yX5_entryFrom, Cond.instanceMethod yX5_entryFrom, Cond.selects RX5 yX5_entryFrom yX5_entryFrom, Cond.code yX5_entryFrom cX5_entryFrom 3 (some .int), Cond.fieldLink RX5 44 "TeaRace" "gateHour" "I"]
def wsX5_sail : List Cond := .code yX5_sail cX5_sail 5 none :: ((wsX5_sail_r1 ++ (wsX5_sail_r2 ++ (wsX5_sail_r3 ++ (wsX5_sail_r4 ++ (wsX5_sail_r5 ++ wsX5_sail_r6))))) ++ wsX50 ++ wsX30 ++ wsX20 ++ wsX00 ++ wsJx4a65c0)
def wsX5_run_r1 : List Cond := [Cond.constant RX5 171 (100000), Cond.fieldLink RX5 38 "TeaRace" "hour" "I", Cond.fieldLink RX5 26 "TeaRace" "fleet" "Ljava/util/List;", Cond.classLink RX5 113 "TeaRace$Ship", Cond.methodLink RX5 60 yX5_outside, Cond.static yX5_outside, Cond.initialized RX5, Cond.code yX5_outside cX5_outside 2 (some .boolean), Cond.methodLink RX5 172 yX5_shipsHome, Cond.instanceMethod yX5_shipsHome, Cond.selects RX5 yX5_shipsHome yX5_shipsHome, Cond.code yX5_shipsHome cX5_shipsHome 3 (some .int), Cond.methodLink RX5 107 ⟨"java/util/List", "size", "()I"⟩, Cond.selects RJx4a65c ⟨"java/util/List", "size", "()I"⟩ yJx4a65c_size_8abf5, Cond.instanceMethod yJx4a65c_size_8abf5, Cond.initialized RJx4a65c, Cond.code yJx4a65c_size_8abf5 cJx4a65c_size_8abf5 1 (some .int), Cond.fieldLink RJx4a65c 48 "java/util/ArrayList" "size" "I", Cond.methodLink RX5 175 ⟨"java/util/List", "get", "(I)Ljava/lang/Object;"⟩, Cond.selects RJx4a65c ⟨"java/util/List", "get", "(I)Ljava/lang/Object;"⟩ yJx4a65c_get_915e3, Cond.instanceMethod yJx4a65c_get_915e3, Cond.code yJx4a65c_get_915e3 cJx4a65c_get_915e3 2 (some (.object "java/lang/Object")), Cond.methodLink RJx4a65c 118 yJ15_checkIndex_7cf53, Cond.static yJ15_checkIndex_7cf53]
def wsX5_run_r2 : List Cond := [Cond.initialized RJ15, Cond.code yJ15_checkIndex_7cf53 cJ15_checkIndex_7cf53 2 (some .int), Cond.methodLink RJ15 105 yJ3_checkIndex_8e157, Cond.static yJ3_checkIndex_8e157, Cond.initialized RJ3, Cond.code yJ3_checkIndex_8e157 cJ3_checkIndex_8e157 3 (some .int), Cond.methodLink RJx4a65c 123 yJx4a65c_elementData_915e3, Cond.instanceMethod yJx4a65c_elementData_915e3, Cond.selects RJx4a65c yJx4a65c_elementData_915e3 yJx4a65c_elementData_915e3, Cond.code yJx4a65c_elementData_915e3 cJx4a65c_elementData_915e3 2 (some (.object "java/lang/Object")), Cond.fieldLink RJx4a65c 9 "java/util/ArrayList" "elementData" "[Ljava/lang/Object;", Cond.methodLink RX5 222 yX3_isHome, Cond.instanceMethod yX3_isHome, Cond.selects RX3 yX3_isHome yX3_isHome, Cond.initialized RX3, Cond.code yX3_isHome cX3_isHome 1 (some .boolean), Cond.fieldLink RX3 34 "TeaRace$Ship" "homeHour" "I", Cond.methodLink RX5 179 yX5_sail, Cond.instanceMethod yX5_sail, Cond.selects RX5 yX5_sail yX5_sail, Cond.code yX5_sail cX5_sail 5 none, Cond.fieldLink RX5 10 "TeaRace" "sea" "LTeaRace$Sea;", Cond.fieldLink RX5 132 "TeaRace$Ship" "cell" "I", Cond.fieldLink RX5 138 "TeaRace$Ship" "way" "I"]
def wsX5_run_r3 : List Cond := [Cond.fieldLink RX5 135 "TeaRace$Ship" "gone" "I", Cond.methodLink RX5 262 yX5_monthOf, Cond.static yX5_monthOf, Cond.code yX5_monthOf cX5_monthOf 1 (some .int), Cond.methodLink RX5 259 yJ9_floorMod_7cf53, Cond.static yJ9_floorMod_7cf53, Cond.initialized RJ9, Cond.code yJ9_floorMod_7cf53 cJ9_floorMod_7cf53 3 (some .int), Cond.methodLink RX5 98 yX2_windIn, Cond.instanceMethod yX2_windIn, Cond.selects RX2 yX2_windIn yX2_windIn, Cond.initialized RX2, Cond.code yX2_windIn cX2_windIn 4 (some .int), Cond.fieldLink RX2 15 "TeaRace$Sea" "chartThere" "[Z", Cond.fieldLink RX2 20 "TeaRace$Sea" "charts" "[[B", Cond.methodLink RX5 265 yX3_askWay, Cond.instanceMethod yX3_askWay, Cond.selects RX3 yX3_askWay yX3_askWay, Cond.code yX3_askWay cX3_askWay 4 none, Cond.fieldLink RX3 12 "TeaRace$Ship" "orders" "Ljava/util/List;", Cond.classLink RX3 87 "TeaRace$Order", Cond.fieldLink RX3 52 "TeaRace$Ship" "cell" "I", Cond.fieldLink RX3 93 "TeaRace$Order" "way" "I", Cond.fieldLink RX3 25 "TeaRace$Ship" "way" "I"]
def wsX5_run_r4 : List Cond := [Cond.methodLink RX3 78 ⟨"java/util/List", "size", "()I"⟩, Cond.methodLink RX3 83 ⟨"java/util/List", "get", "(I)Ljava/lang/Object;"⟩, Cond.static yX5_strengthOf, Cond.code yX5_strengthOf cX5_strengthOf 1 (some .int), Cond.methodLink RX3 89 yX0_fits, Cond.instanceMethod yX0_fits, Cond.selects RX0 yX0_fits yX0_fits, Cond.initialized RX0, Cond.code yX0_fits cX0_fits 5 (some .boolean), Cond.fieldLink RX0 9 "TeaRace$Order" "west" "I", Cond.fieldLink RX0 15 "TeaRace$Order" "east" "I", Cond.fieldLink RX0 18 "TeaRace$Order" "north" "I", Cond.fieldLink RX0 21 "TeaRace$Order" "south" "I", Cond.fieldLink RX0 24 "TeaRace$Order" "strength" "I", Cond.methodLink RX5 156 yX3_speedIn, Cond.instanceMethod yX3_speedIn, Cond.selects RX3 yX3_speedIn yX3_speedIn, Cond.code yX3_speedIn cX3_speedIn 4 (some .int), Cond.fieldLink RX3 49 "TeaRace$Ship" "kind" "I", Cond.fieldLink RX3 28 "TeaRace$Ship" "foulness" "I", Cond.methodLink RX3 69 Lib.Math.max.name, Cond.static Lib.Math.max.name, Cond.initialized "java/lang/Math", Cond.code Lib.Math.max.name Lib.Math.max.code 2 (some .int)]
def wsX5_run_r5 : List Cond := [Cond.static yX5_eighthsBetween, Cond.code yX5_eighthsBetween cX5_eighthsBetween 3 (some .int), Cond.methodLink RX5 251 Lib.Math.abs.name, Cond.static Lib.Math.abs.name, Cond.code Lib.Math.abs.name Lib.Math.abs.code 1 (some .int), Cond.methodLink RX5 256 Lib.Math.min.name, Cond.static Lib.Math.min.name, Cond.code Lib.Math.min.name Lib.Math.min.code 2 (some .int), Cond.methodLink RX3 66 yX3_sailSpeed, Cond.instanceMethod yX3_sailSpeed, Cond.selects RX3 yX3_sailSpeed yX3_sailSpeed, Cond.code yX3_sailSpeed cX3_sailSpeed 3 (some .int), Cond.methodLink RX3 74 yX3_moreAcrossTheWind, Cond.instanceMethod yX3_moreAcrossTheWind, Cond.selects RX3 yX3_moreAcrossTheWind yX3_moreAcrossTheWind, Cond.code yX3_moreAcrossTheWind cX3_moreAcrossTheWind 1 (some .int), Cond.methodLink RX5 268 yX5_needOf, Cond.static yX5_needOf, Cond.code yX5_needOf cX5_needOf 1 (some .int), Cond.methodLink RX5 271 yX5_moveOn, Cond.instanceMethod yX5_moveOn, Cond.selects RX5 yX5_moveOn yX5_moveOn, Cond.code yX5_moveOn cX5_moveOn 5 none, Cond.methodLink RX5 274 yX2_nextCell]
def wsX5_run_r6 : List Cond := [Cond.instanceMethod yX2_nextCell, Cond.selects RX2 yX2_nextCell yX2_nextCell, Cond.code yX2_nextCell cX2_nextCell 6 (some .int), Cond.methodLink RX2 50 yX2_isLand, Cond.instanceMethod yX2_isLand, Cond.selects RX2 yX2_isLand yX2_isLand, Cond.code yX2_isLand cX2_isLand 2 (some .boolean), Cond.fieldLink RX2 9 "TeaRace$Sea" "landCells" "[Z", Cond.methodLink RX5 277 yX5_comeTo, Cond.instanceMethod yX5_comeTo, Cond.selects RX5 yX5_comeTo yX5_comeTo, Cond.code yX5_comeTo cX5_comeTo 4 none, Cond.fieldLink RX5 159 "TeaRace$Ship" "cellsComeTo" "I", Cond.fieldLink RX5 41 "TeaRace" "homeCell" "I", Cond.fieldLink RX5 141 "TeaRace$Ship" "homeHour" "I", Cond.fieldLink RX5 144 "TeaRace$Ship" "entry" "I", Cond.methodLink RX5 281 yX5_entryFrom, Cond.instanceMethod yX5_entryFrom, Cond.selects RX5 yX5_entryFrom yX5_entryFrom, Cond.code yX5_entryFrom cX5_entryFrom 3 (some .int), Cond.fieldLink RX5 44 "TeaRace" "gateHour" "I"]
def wsX5_run : List Cond := .code yX5_run cX5_run 4 (some .int) :: ((wsX5_run_r1 ++ (wsX5_run_r2 ++ (wsX5_run_r3 ++ (wsX5_run_r4 ++ (wsX5_run_r5 ++ wsX5_run_r6))))) ++ wsX50 ++ wsJx4a65c0 ++ wsX30 ++ wsX20 ++ wsX00)
def wsX5_theFirst_r1 : List Cond := [Cond.fieldLink RX5 26 "TeaRace" "fleet" "Ljava/util/List;", Cond.classLink RX5 113 "TeaRace$Ship", Cond.methodLink RX5 107 ⟨"java/util/List", "size", "()I"⟩, Cond.selects RJx4a65c ⟨"java/util/List", "size", "()I"⟩ yJx4a65c_size_8abf5, Cond.instanceMethod yJx4a65c_size_8abf5, Cond.initialized RJx4a65c, Cond.code yJx4a65c_size_8abf5 cJx4a65c_size_8abf5 1 (some .int), Cond.fieldLink RJx4a65c 48 "java/util/ArrayList" "size" "I", Cond.methodLink RX5 175 ⟨"java/util/List", "get", "(I)Ljava/lang/Object;"⟩, Cond.selects RJx4a65c ⟨"java/util/List", "get", "(I)Ljava/lang/Object;"⟩ yJx4a65c_get_915e3, Cond.instanceMethod yJx4a65c_get_915e3, Cond.code yJx4a65c_get_915e3 cJx4a65c_get_915e3 2 (some (.object "java/lang/Object")), Cond.methodLink RJx4a65c 118 yJ15_checkIndex_7cf53, Cond.static yJ15_checkIndex_7cf53, Cond.initialized RJ15, Cond.code yJ15_checkIndex_7cf53 cJ15_checkIndex_7cf53 2 (some .int), Cond.methodLink RJ15 105 yJ3_checkIndex_8e157, Cond.static yJ3_checkIndex_8e157, Cond.initialized RJ3, Cond.code yJ3_checkIndex_8e157 cJ3_checkIndex_8e157 3 (some .int), Cond.methodLink RJx4a65c 123 yJx4a65c_elementData_915e3, Cond.instanceMethod yJx4a65c_elementData_915e3, Cond.selects RJx4a65c yJx4a65c_elementData_915e3 yJx4a65c_elementData_915e3, Cond.code yJx4a65c_elementData_915e3 cJx4a65c_elementData_915e3 2 (some (.object "java/lang/Object"))]
def wsX5_theFirst_r2 : List Cond := [Cond.fieldLink RJx4a65c 9 "java/util/ArrayList" "elementData" "[Ljava/lang/Object;", Cond.methodLink RX5 222 yX3_isHome, Cond.instanceMethod yX3_isHome, Cond.selects RX3 yX3_isHome yX3_isHome, Cond.initialized RX3, Cond.code yX3_isHome cX3_isHome 1 (some .boolean), Cond.fieldLink RX3 34 "TeaRace$Ship" "homeHour" "I", Cond.methodLink RX5 284 yX3_beats, Cond.instanceMethod yX3_beats, Cond.selects RX3 yX3_beats yX3_beats, Cond.code yX3_beats cX3_beats 2 (some .boolean), Cond.fieldLink RX3 37 "TeaRace$Ship" "entry" "I", Cond.fieldLink RX3 46 "TeaRace$Ship" "number" "I"]
def wsX5_theFirst : List Cond := .code yX5_theFirst cX5_theFirst 4 (some (.object "TeaRace$Ship")) :: ((wsX5_theFirst_r1 ++ wsX5_theFirst_r2) ++ wsX50 ++ wsJx4a65c0 ++ wsX30)
def wsX5_first_r1 : List Cond := [Cond.fieldLink RX5 187 "TeaRace$Ship" "number" "I", Cond.methodLink RX5 183 yX5_theFirst, Cond.instanceMethod yX5_theFirst, Cond.selects RX5 yX5_theFirst yX5_theFirst, Cond.initialized RX5, Cond.code yX5_theFirst cX5_theFirst 4 (some (.object "TeaRace$Ship")), Cond.fieldLink RX5 26 "TeaRace" "fleet" "Ljava/util/List;", Cond.classLink RX5 113 "TeaRace$Ship", Cond.methodLink RX5 107 ⟨"java/util/List", "size", "()I"⟩, Cond.selects RJx4a65c ⟨"java/util/List", "size", "()I"⟩ yJx4a65c_size_8abf5, Cond.instanceMethod yJx4a65c_size_8abf5, Cond.initialized RJx4a65c, Cond.code yJx4a65c_size_8abf5 cJx4a65c_size_8abf5 1 (some .int), Cond.fieldLink RJx4a65c 48 "java/util/ArrayList" "size" "I", Cond.methodLink RX5 175 ⟨"java/util/List", "get", "(I)Ljava/lang/Object;"⟩, Cond.selects RJx4a65c ⟨"java/util/List", "get", "(I)Ljava/lang/Object;"⟩ yJx4a65c_get_915e3, Cond.instanceMethod yJx4a65c_get_915e3, Cond.code yJx4a65c_get_915e3 cJx4a65c_get_915e3 2 (some (.object "java/lang/Object")), Cond.methodLink RJx4a65c 118 yJ15_checkIndex_7cf53, Cond.static yJ15_checkIndex_7cf53, Cond.initialized RJ15, Cond.code yJ15_checkIndex_7cf53 cJ15_checkIndex_7cf53 2 (some .int), Cond.methodLink RJ15 105 yJ3_checkIndex_8e157, Cond.static yJ3_checkIndex_8e157]
def wsX5_first_r2 : List Cond := [Cond.initialized RJ3, Cond.code yJ3_checkIndex_8e157 cJ3_checkIndex_8e157 3 (some .int), Cond.methodLink RJx4a65c 123 yJx4a65c_elementData_915e3, Cond.instanceMethod yJx4a65c_elementData_915e3, Cond.selects RJx4a65c yJx4a65c_elementData_915e3 yJx4a65c_elementData_915e3, Cond.code yJx4a65c_elementData_915e3 cJx4a65c_elementData_915e3 2 (some (.object "java/lang/Object")), Cond.fieldLink RJx4a65c 9 "java/util/ArrayList" "elementData" "[Ljava/lang/Object;", Cond.methodLink RX5 222 yX3_isHome, Cond.instanceMethod yX3_isHome, Cond.selects RX3 yX3_isHome yX3_isHome, Cond.initialized RX3, Cond.code yX3_isHome cX3_isHome 1 (some .boolean), Cond.fieldLink RX3 34 "TeaRace$Ship" "homeHour" "I", Cond.methodLink RX5 284 yX3_beats, Cond.instanceMethod yX3_beats, Cond.selects RX3 yX3_beats yX3_beats, Cond.code yX3_beats cX3_beats 2 (some .boolean), Cond.fieldLink RX3 37 "TeaRace$Ship" "entry" "I", Cond.fieldLink RX3 46 "TeaRace$Ship" "number" "I"]
def wsX5_first : List Cond := .code yX5_first cX5_first 2 (some .int) :: ((wsX5_first_r1 ++ wsX5_first_r2) ++ wsX30 ++ wsX50 ++ wsJx4a65c0)
def wsX5_least_r1 : List Cond := [Cond.constant RX5 190 (98000), Cond.fieldLink RX5 19 "TeaRace" "passage" "LTeaRace$Passage;", Cond.fieldLink RX5 10 "TeaRace" "sea" "LTeaRace$Sea;", Cond.methodLink RX5 122 yX5_shipOf, Cond.instanceMethod yX5_shipOf, Cond.selects RX5 yX5_shipOf yX5_shipOf, Cond.initialized RX5, Cond.code yX5_shipOf cX5_shipOf 2 (some (.object "TeaRace$Ship")), Cond.fieldLink RX5 26 "TeaRace" "fleet" "Ljava/util/List;", Cond.classLink RX5 113 "TeaRace$Ship", Cond.methodLink RX5 107 ⟨"java/util/List", "size", "()I"⟩, Cond.selects RJx4a65c ⟨"java/util/List", "size", "()I"⟩ yJx4a65c_size_8abf5, Cond.instanceMethod yJx4a65c_size_8abf5, Cond.initialized RJx4a65c, Cond.code yJx4a65c_size_8abf5 cJx4a65c_size_8abf5 1 (some .int), Cond.fieldLink RJx4a65c 48 "java/util/ArrayList" "size" "I", Cond.methodLink RX5 175 ⟨"java/util/List", "get", "(I)Ljava/lang/Object;"⟩, Cond.selects RJx4a65c ⟨"java/util/List", "get", "(I)Ljava/lang/Object;"⟩ yJx4a65c_get_915e3, Cond.instanceMethod yJx4a65c_get_915e3, Cond.code yJx4a65c_get_915e3 cJx4a65c_get_915e3 2 (some (.object "java/lang/Object")), Cond.methodLink RJx4a65c 118 yJ15_checkIndex_7cf53, Cond.static yJ15_checkIndex_7cf53, Cond.initialized RJ15, Cond.code yJ15_checkIndex_7cf53 cJ15_checkIndex_7cf53 2 (some .int)]
def wsX5_least_r2 : List Cond := [Cond.methodLink RJ15 105 yJ3_checkIndex_8e157, Cond.static yJ3_checkIndex_8e157, Cond.initialized RJ3, Cond.code yJ3_checkIndex_8e157 cJ3_checkIndex_8e157 3 (some .int), Cond.methodLink RJx4a65c 123 yJx4a65c_elementData_915e3, Cond.instanceMethod yJx4a65c_elementData_915e3, Cond.selects RJx4a65c yJx4a65c_elementData_915e3 yJx4a65c_elementData_915e3, Cond.code yJx4a65c_elementData_915e3 cJx4a65c_elementData_915e3 2 (some (.object "java/lang/Object")), Cond.fieldLink RJx4a65c 9 "java/util/ArrayList" "elementData" "[Ljava/lang/Object;", Cond.methodLink RX5 104 yX5_isNoWater, Cond.instanceMethod yX5_isNoWater, Cond.selects RX5 yX5_isNoWater yX5_isNoWater, Cond.code yX5_isNoWater cX5_isNoWater 2 (some .boolean), Cond.methodLink RX5 60 yX5_outside, Cond.static yX5_outside, Cond.code yX5_outside cX5_outside 2 (some .boolean), Cond.methodLink RX5 64 yX2_isLand, Cond.instanceMethod yX2_isLand, Cond.selects RX2 yX2_isLand yX2_isLand, Cond.initialized RX2, Cond.code yX2_isLand cX2_isLand 2 (some .boolean), Cond.fieldLink RX2 9 "TeaRace$Sea" "landCells" "[Z", Cond.methodLink RX5 191 yX1_leastHours, Cond.instanceMethod yX1_leastHours]
def wsX5_least_r3 : List Cond := [Cond.selects RX1 yX1_leastHours yX1_leastHours, Cond.initialized RX1, Cond.code yX1_leastHours cX1_leastHours 8 (some .int), Cond.fieldLink RX1 9 "TeaRace$Passage" "hoursTo" "[I", Cond.fieldLink RX1 15 "TeaRace$Passage" "departed" "[Z", Cond.methodLink RX1 23 yX1_earliestCell, Cond.instanceMethod yX1_earliestCell, Cond.selects RX1 yX1_earliestCell yX1_earliestCell, Cond.code yX1_earliestCell cX1_earliestCell 4 (some .int), Cond.methodLink RX1 27 yX1_leave, Cond.instanceMethod yX1_leave, Cond.selects RX1 yX1_leave yX1_leave, Cond.code yX1_leave cX1_leave 8 none, Cond.methodLink RX1 31 yX2_nextCell, Cond.instanceMethod yX2_nextCell, Cond.selects RX2 yX2_nextCell yX2_nextCell, Cond.code yX2_nextCell cX2_nextCell 6 (some .int), Cond.methodLink RX2 50 yX2_isLand, Cond.methodLink RX1 37 yX1_comingHour, Cond.static yX1_comingHour, Cond.code yX1_comingHour cX1_comingHour 11 (some .int), Cond.methodLink RX1 49 Lib.Math.max.name, Cond.static Lib.Math.max.name, Cond.initialized "java/lang/Math"]
def wsX5_least_r4 : List Cond := [Cond.code Lib.Math.max.name Lib.Math.max.code 2 (some .int), Cond.static yX5_needOf, Cond.code yX5_needOf cX5_needOf 1 (some .int), Cond.static yX5_monthOf, Cond.code yX5_monthOf cX5_monthOf 1 (some .int), Cond.methodLink RX5 259 yJ9_floorMod_7cf53, Cond.static yJ9_floorMod_7cf53, Cond.initialized RJ9, Cond.code yJ9_floorMod_7cf53 cJ9_floorMod_7cf53 3 (some .int), Cond.methodLink RX1 57 yX2_windIn, Cond.instanceMethod yX2_windIn, Cond.selects RX2 yX2_windIn yX2_windIn, Cond.code yX2_windIn cX2_windIn 4 (some .int), Cond.fieldLink RX2 15 "TeaRace$Sea" "chartThere" "[Z", Cond.fieldLink RX2 20 "TeaRace$Sea" "charts" "[[B", Cond.methodLink RX1 60 yX3_speedIn, Cond.instanceMethod yX3_speedIn, Cond.selects RX3 yX3_speedIn yX3_speedIn, Cond.initialized RX3, Cond.code yX3_speedIn cX3_speedIn 4 (some .int), Cond.fieldLink RX3 49 "TeaRace$Ship" "kind" "I", Cond.fieldLink RX3 28 "TeaRace$Ship" "foulness" "I", Cond.methodLink RX3 69 Lib.Math.max.name, Cond.static yX5_eighthsBetween]
def wsX5_least_r5 : List Cond := [Cond.code yX5_eighthsBetween cX5_eighthsBetween 3 (some .int), Cond.methodLink RX5 251 Lib.Math.abs.name, Cond.static Lib.Math.abs.name, Cond.code Lib.Math.abs.name Lib.Math.abs.code 1 (some .int), Cond.methodLink RX5 256 Lib.Math.min.name, Cond.static Lib.Math.min.name, Cond.code Lib.Math.min.name Lib.Math.min.code 2 (some .int), Cond.static yX5_strengthOf, Cond.code yX5_strengthOf cX5_strengthOf 1 (some .int), Cond.methodLink RX3 66 yX3_sailSpeed, Cond.instanceMethod yX3_sailSpeed, Cond.selects RX3 yX3_sailSpeed yX3_sailSpeed, Cond.code yX3_sailSpeed cX3_sailSpeed 3 (some .int), Cond.methodLink RX3 74 yX3_moreAcrossTheWind, Cond.instanceMethod yX3_moreAcrossTheWind, Cond.selects RX3 yX3_moreAcrossTheWind yX3_moreAcrossTheWind, Cond.code yX3_moreAcrossTheWind cX3_moreAcrossTheWind 1 (some .int), Cond.methodLink RX1 65 yX1_hoursFor, Cond.static yX1_hoursFor, Cond.code yX1_hoursFor cX1_hoursFor 2 (some .int), Cond.methodLink RX1 41 yX1_reach, Cond.instanceMethod yX1_reach, Cond.selects RX1 yX1_reach yX1_reach, Cond.code yX1_reach cX1_reach 3 none]
def wsX5_least : List Cond := .code yX5_least cX5_least 6 (some .int) :: ((wsX5_least_r1 ++ (wsX5_least_r2 ++ (wsX5_least_r3 ++ (wsX5_least_r4 ++ wsX5_least_r5)))) ++ wsX50 ++ wsJx4a65c0 ++ wsX20 ++ wsX10 ++ wsX30)
def wsX5_sight_r1 : List Cond := [Cond.constant RX5 171 (100000), Cond.fieldLink RX5 47 "TeaRace" "sightCount" "I", Cond.fieldLink RX5 198 "TeaRace$Ship" "sights" "Ljava/util/List;", Cond.classLink RX5 201 RX4, Cond.instantiable RX4 2, Cond.initialized RX4, Cond.methodLink RX5 122 yX5_shipOf, Cond.instanceMethod yX5_shipOf, Cond.selects RX5 yX5_shipOf yX5_shipOf, Cond.initialized RX5, Cond.code yX5_shipOf cX5_shipOf 2 (some (.object "TeaRace$Ship")), Cond.fieldLink RX5 26 "TeaRace" "fleet" "Ljava/util/List;", Cond.classLink RX5 113 "TeaRace$Ship", Cond.methodLink RX5 107 ⟨"java/util/List", "size", "()I"⟩, Cond.selects RJx4a65c ⟨"java/util/List", "size", "()I"⟩ yJx4a65c_size_8abf5, Cond.instanceMethod yJx4a65c_size_8abf5, Cond.initialized RJx4a65c, Cond.code yJx4a65c_size_8abf5 cJx4a65c_size_8abf5 1 (some .int), Cond.fieldLink RJx4a65c 48 "java/util/ArrayList" "size" "I", Cond.methodLink RX5 175 ⟨"java/util/List", "get", "(I)Ljava/lang/Object;"⟩, Cond.selects RJx4a65c ⟨"java/util/List", "get", "(I)Ljava/lang/Object;"⟩ yJx4a65c_get_915e3, Cond.instanceMethod yJx4a65c_get_915e3, Cond.code yJx4a65c_get_915e3 cJx4a65c_get_915e3 2 (some (.object "java/lang/Object")), Cond.methodLink RJx4a65c 118 yJ15_checkIndex_7cf53]
def wsX5_sight_r2 : List Cond := [Cond.static yJ15_checkIndex_7cf53, Cond.initialized RJ15, Cond.code yJ15_checkIndex_7cf53 cJ15_checkIndex_7cf53 2 (some .int), Cond.methodLink RJ15 105 yJ3_checkIndex_8e157, Cond.static yJ3_checkIndex_8e157, Cond.initialized RJ3, Cond.code yJ3_checkIndex_8e157 cJ3_checkIndex_8e157 3 (some .int), Cond.methodLink RJx4a65c 123 yJx4a65c_elementData_915e3, Cond.instanceMethod yJx4a65c_elementData_915e3, Cond.selects RJx4a65c yJx4a65c_elementData_915e3 yJx4a65c_elementData_915e3, Cond.code yJx4a65c_elementData_915e3 cJx4a65c_elementData_915e3 2 (some (.object "java/lang/Object")), Cond.fieldLink RJx4a65c 9 "java/util/ArrayList" "elementData" "[Ljava/lang/Object;", Cond.methodLink RX5 60 yX5_outside, Cond.static yX5_outside, Cond.code yX5_outside cX5_outside 2 (some .boolean), Cond.methodLink RX5 195 yX3_isUnseenFrom, Cond.instanceMethod yX3_isUnseenFrom, Cond.selects RX3 yX3_isUnseenFrom yX3_isUnseenFrom, Cond.initialized RX3, Cond.code yX3_isUnseenFrom cX3_isUnseenFrom 2 (some .boolean), Cond.methodLink RX3 94 yX3_firstSightFrom, Cond.instanceMethod yX3_firstSightFrom, Cond.selects RX3 yX3_firstSightFrom yX3_firstSightFrom, Cond.code yX3_firstSightFrom cX3_firstSightFrom 4 (some (.object "TeaRace$Sight"))]
def wsX5_sight_r3 : List Cond := [Cond.fieldLink RX3 18 "TeaRace$Ship" "sights" "Ljava/util/List;", Cond.classLink RX3 101 "TeaRace$Sight", Cond.fieldLink RX3 103 "TeaRace$Sight" "hour" "I", Cond.methodLink RX3 78 ⟨"java/util/List", "size", "()I"⟩, Cond.methodLink RX3 83 ⟨"java/util/List", "get", "(I)Ljava/lang/Object;"⟩, Cond.methodLink RX5 203 yX4_init, Cond.instanceMethod yX4_init, Cond.code yX4_init cX4_init 3 none, Cond.methodLink RX4 1 objectInit, Cond.instanceMethod objectInit, Cond.code objectInit ⟨#[0xb1]⟩ 1 none, Cond.fieldLink RX4 7 "TeaRace$Sight" "cell" "I", Cond.fieldLink RX4 13 "TeaRace$Sight" "hour" "I", Cond.methodLink RX5 118 ⟨"java/util/List", "add", "(Ljava/lang/Object;)Z"⟩, Cond.selects RJx4a65c ⟨"java/util/List", "add", "(Ljava/lang/Object;)Z"⟩ yJx4a65c_add_9ea2d, Cond.instanceMethod yJx4a65c_add_9ea2d, Cond.code yJx4a65c_add_9ea2d cJx4a65c_add_9ea2d 2 (some .boolean), Cond.fieldLink RJx4a65c 63 "java/util/ArrayList" "modCount" "I", Cond.sameField "java/util/ArrayList" "java/util/AbstractList" "modCount" "I", Cond.methodLink RJx4a65c 131 yJx4a65c_add_72be8, Cond.instanceMethod yJx4a65c_add_72be8, Cond.selects RJx4a65c yJx4a65c_add_72be8 yJx4a65c_add_72be8, Cond.code yJx4a65c_add_72be8 cJx4a65c_add_72be8 4 none, Cond.methodLink RJx4a65c 129 yJx4a65c_grow_d5877]
def wsX5_sight_r4 : List Cond := [Cond.instanceMethod yJx4a65c_grow_d5877, Cond.selects RJx4a65c yJx4a65c_grow_d5877 yJx4a65c_grow_d5877, Cond.code yJx4a65c_grow_d5877 cJx4a65c_grow_d5877 1 (some (.array (.object "java/lang/Object"))), Cond.methodLink RJx4a65c 69 yJx4a65c_grow_92f84, Cond.instanceMethod yJx4a65c_grow_92f84, Cond.selects RJx4a65c yJx4a65c_grow_92f84 yJx4a65c_grow_92f84, Cond.code yJx4a65c_grow_92f84 cJx4a65c_grow_92f84 4 (some (.array (.object "java/lang/Object"))), Cond.fieldLink RJx4a65c 39 "java/util/ArrayList" "DEFAULTCAPACITY_EMPTY_ELEMENTDATA" "[Ljava/lang/Object;", Cond.methodLink RJx4a65c 79 Lib.Math.max.name, Cond.static Lib.Math.max.name, Cond.initialized "java/lang/Math", Cond.code Lib.Math.max.name Lib.Math.max.code 2 (some .int), Cond.classLink RJx4a65c 7 "java/lang/Object", Cond.methodLink RJx4a65c 73 yJ8_newLength_cabcc, Cond.static yJ8_newLength_cabcc, Cond.initialized RJ8, Cond.code yJ8_newLength_cabcc cJ8_newLength_cabcc 4 (some .int), Cond.methodLink RJ8 194 Lib.Math.max.name, Cond.constant RJ8 200 (2147483639), Cond.methodLink RJ8 201 yJ8_hugeLength_7cf53, Cond.static yJ8_hugeLength_7cf53, Cond.code yJ8_hugeLength_7cf53 cJ8_hugeLength_7cf53 3 (some .int), Cond.methodLink RJx4a65c 66 yJ7_copyOf_1904c, Cond.static yJ7_copyOf_1904c]
def wsX5_sight_r5 : List Cond := [Cond.initialized RJ7, Cond.code yJ7_copyOf_1904c cJ7_copyOf_1904c 2 (some (.array (.object "java/lang/Object"))), Cond.methodLink RJ7 86 ⟨"java/lang/Object", "getClass", "()Ljava/lang/Class;"⟩, Cond.selects "[Ljava/lang/Object;" ⟨"java/lang/Object", "getClass", "()Ljava/lang/Class;"⟩ ⟨"java/lang/Object", "getClass", "()Ljava/lang/Class;"⟩, Cond.instanceMethod ⟨"java/lang/Object", "getClass", "()Ljava/lang/Class;"⟩, Cond.native ⟨"java/lang/Object", "getClass", "()Ljava/lang/Class;"⟩, Cond.methodLink RJ7 300 yJ7_copyOf_6403c, Cond.static yJ7_copyOf_6403c, Cond.code yJ7_copyOf_6403c cJ7_copyOf_6403c 4 (some (.array (.object "java/lang/Object"))), Cond.classLink RJ7 110 "[Ljava/lang/Object;", Cond.classLink RJ7 2 "java/lang/Object", Cond.methodLink RJ7 304 Lib.Math.min.name, Cond.static Lib.Math.min.name, Cond.code Lib.Math.min.name Lib.Math.min.code 2 (some .int), Cond.methodLink RJ7 150 arraycopyName, Cond.native arraycopyName, Cond.static arraycopyName, Cond.initialized "java/lang/System"]
def wsX5_sight : List Cond := .code yX5_sight cX5_sight 5 (some .int) :: ((wsX5_sight_r1 ++ (wsX5_sight_r2 ++ (wsX5_sight_r3 ++ (wsX5_sight_r4 ++ wsX5_sight_r5)))) ++ wsX50 ++ wsX30 ++ wsX40 ++ wsJx4a65c0)
def wsX5_distanceFromHome : List Cond := .code yX5_distanceFromHome cX5_distanceFromHome 4 (some .int) :: ([.fieldLink RX5 41 "TeaRace" "homeCell" "I", .methodLink RX5 251 Lib.Math.abs.name, .static Lib.Math.abs.name, .initialized "java/lang/Math", .code Lib.Math.abs.name Lib.Math.abs.code 1 (some .int), .methodLink RX5 288 Lib.Math.max.name, .static Lib.Math.max.name, .code Lib.Math.max.name Lib.Math.max.code 2 (some .int)] ++ wsX50)
def wsX5_mostDistance_r1 : List Cond := [Cond.fieldLink RX5 298 "TeaRace$Sight" "cell" "I", Cond.fieldLink RX5 302 "TeaRace$Sight" "hour" "I", Cond.methodLink RX5 256 Lib.Math.min.name, Cond.static Lib.Math.min.name, Cond.initialized "java/lang/Math", Cond.code Lib.Math.min.name Lib.Math.min.code 2 (some .int), Cond.methodLink RX5 291 yX3_lastSightBy, Cond.instanceMethod yX3_lastSightBy, Cond.selects RX3 yX3_lastSightBy yX3_lastSightBy, Cond.initialized RX3, Cond.code yX3_lastSightBy cX3_lastSightBy 5 (some (.object "TeaRace$Sight")), Cond.fieldLink RX3 18 "TeaRace$Ship" "sights" "Ljava/util/List;", Cond.classLink RX3 101 "TeaRace$Sight", Cond.fieldLink RX3 103 "TeaRace$Sight" "hour" "I", Cond.methodLink RX3 78 ⟨"java/util/List", "size", "()I"⟩, Cond.selects RJx4a65c ⟨"java/util/List", "size", "()I"⟩ yJx4a65c_size_8abf5, Cond.instanceMethod yJx4a65c_size_8abf5, Cond.initialized RJx4a65c, Cond.code yJx4a65c_size_8abf5 cJx4a65c_size_8abf5 1 (some .int), Cond.fieldLink RJx4a65c 48 "java/util/ArrayList" "size" "I", Cond.methodLink RX3 83 ⟨"java/util/List", "get", "(I)Ljava/lang/Object;"⟩, Cond.selects RJx4a65c ⟨"java/util/List", "get", "(I)Ljava/lang/Object;"⟩ yJx4a65c_get_915e3, Cond.instanceMethod yJx4a65c_get_915e3, Cond.code yJx4a65c_get_915e3 cJx4a65c_get_915e3 2 (some (.object "java/lang/Object"))]
def wsX5_mostDistance_r2 : List Cond := [Cond.methodLink RJx4a65c 118 yJ15_checkIndex_7cf53, Cond.static yJ15_checkIndex_7cf53, Cond.initialized RJ15, Cond.code yJ15_checkIndex_7cf53 cJ15_checkIndex_7cf53 2 (some .int), Cond.methodLink RJ15 105 yJ3_checkIndex_8e157, Cond.static yJ3_checkIndex_8e157, Cond.initialized RJ3, Cond.code yJ3_checkIndex_8e157 cJ3_checkIndex_8e157 3 (some .int), Cond.methodLink RJx4a65c 123 yJx4a65c_elementData_915e3, Cond.instanceMethod yJx4a65c_elementData_915e3, Cond.selects RJx4a65c yJx4a65c_elementData_915e3 yJx4a65c_elementData_915e3, Cond.code yJx4a65c_elementData_915e3 cJx4a65c_elementData_915e3 2 (some (.object "java/lang/Object")), Cond.fieldLink RJx4a65c 9 "java/util/ArrayList" "elementData" "[Ljava/lang/Object;", Cond.methodLink RX5 295 yX3_firstSightFrom, Cond.instanceMethod yX3_firstSightFrom, Cond.selects RX3 yX3_firstSightFrom yX3_firstSightFrom, Cond.code yX3_firstSightFrom cX3_firstSightFrom 4 (some (.object "TeaRace$Sight")), Cond.methodLink RX5 299 yX5_distanceFromHome, Cond.instanceMethod yX5_distanceFromHome, Cond.selects RX5 yX5_distanceFromHome yX5_distanceFromHome, Cond.initialized RX5, Cond.code yX5_distanceFromHome cX5_distanceFromHome 4 (some .int), Cond.fieldLink RX5 41 "TeaRace" "homeCell" "I", Cond.methodLink RX5 251 Lib.Math.abs.name]
def wsX5_mostDistance_r3 : List Cond := [Cond.static Lib.Math.abs.name, Cond.code Lib.Math.abs.name Lib.Math.abs.code 1 (some .int), Cond.methodLink RX5 288 Lib.Math.max.name, Cond.static Lib.Math.max.name, Cond.code Lib.Math.max.name Lib.Math.max.code 2 (some .int)]
def wsX5_mostDistance : List Cond := .code yX5_mostDistance cX5_mostDistance 7 (some .int) :: ((wsX5_mostDistance_r1 ++ (wsX5_mostDistance_r2 ++ wsX5_mostDistance_r3)) ++ wsX40 ++ wsX30 ++ wsJx4a65c0 ++ wsX50)
def wsX5_leastDistance_r1 : List Cond := [Cond.fieldLink RX5 298 "TeaRace$Sight" "cell" "I", Cond.fieldLink RX5 302 "TeaRace$Sight" "hour" "I", Cond.methodLink RX5 288 Lib.Math.max.name, Cond.static Lib.Math.max.name, Cond.initialized "java/lang/Math", Cond.code Lib.Math.max.name Lib.Math.max.code 2 (some .int), Cond.methodLink RX5 291 yX3_lastSightBy, Cond.instanceMethod yX3_lastSightBy, Cond.selects RX3 yX3_lastSightBy yX3_lastSightBy, Cond.initialized RX3, Cond.code yX3_lastSightBy cX3_lastSightBy 5 (some (.object "TeaRace$Sight")), Cond.fieldLink RX3 18 "TeaRace$Ship" "sights" "Ljava/util/List;", Cond.classLink RX3 101 "TeaRace$Sight", Cond.fieldLink RX3 103 "TeaRace$Sight" "hour" "I", Cond.methodLink RX3 78 ⟨"java/util/List", "size", "()I"⟩, Cond.selects RJx4a65c ⟨"java/util/List", "size", "()I"⟩ yJx4a65c_size_8abf5, Cond.instanceMethod yJx4a65c_size_8abf5, Cond.initialized RJx4a65c, Cond.code yJx4a65c_size_8abf5 cJx4a65c_size_8abf5 1 (some .int), Cond.fieldLink RJx4a65c 48 "java/util/ArrayList" "size" "I", Cond.methodLink RX3 83 ⟨"java/util/List", "get", "(I)Ljava/lang/Object;"⟩, Cond.selects RJx4a65c ⟨"java/util/List", "get", "(I)Ljava/lang/Object;"⟩ yJx4a65c_get_915e3, Cond.instanceMethod yJx4a65c_get_915e3, Cond.code yJx4a65c_get_915e3 cJx4a65c_get_915e3 2 (some (.object "java/lang/Object"))]
def wsX5_leastDistance_r2 : List Cond := [Cond.methodLink RJx4a65c 118 yJ15_checkIndex_7cf53, Cond.static yJ15_checkIndex_7cf53, Cond.initialized RJ15, Cond.code yJ15_checkIndex_7cf53 cJ15_checkIndex_7cf53 2 (some .int), Cond.methodLink RJ15 105 yJ3_checkIndex_8e157, Cond.static yJ3_checkIndex_8e157, Cond.initialized RJ3, Cond.code yJ3_checkIndex_8e157 cJ3_checkIndex_8e157 3 (some .int), Cond.methodLink RJx4a65c 123 yJx4a65c_elementData_915e3, Cond.instanceMethod yJx4a65c_elementData_915e3, Cond.selects RJx4a65c yJx4a65c_elementData_915e3 yJx4a65c_elementData_915e3, Cond.code yJx4a65c_elementData_915e3 cJx4a65c_elementData_915e3 2 (some (.object "java/lang/Object")), Cond.fieldLink RJx4a65c 9 "java/util/ArrayList" "elementData" "[Ljava/lang/Object;", Cond.methodLink RX5 295 yX3_firstSightFrom, Cond.instanceMethod yX3_firstSightFrom, Cond.selects RX3 yX3_firstSightFrom yX3_firstSightFrom, Cond.code yX3_firstSightFrom cX3_firstSightFrom 4 (some (.object "TeaRace$Sight")), Cond.methodLink RX5 299 yX5_distanceFromHome, Cond.instanceMethod yX5_distanceFromHome, Cond.selects RX5 yX5_distanceFromHome yX5_distanceFromHome, Cond.initialized RX5, Cond.code yX5_distanceFromHome cX5_distanceFromHome 4 (some .int), Cond.fieldLink RX5 41 "TeaRace" "homeCell" "I", Cond.methodLink RX5 251 Lib.Math.abs.name]
def wsX5_leastDistance_r3 : List Cond := [Cond.static Lib.Math.abs.name, Cond.code Lib.Math.abs.name Lib.Math.abs.code 1 (some .int)]
def wsX5_leastDistance : List Cond := .code yX5_leastDistance cX5_leastDistance 7 (some .int) :: ((wsX5_leastDistance_r1 ++ (wsX5_leastDistance_r2 ++ wsX5_leastDistance_r3)) ++ wsX40 ++ wsX30 ++ wsJx4a65c0 ++ wsX50)
def wsX5_distance_r1 : List Cond := [Cond.constant RX5 171 (100000), Cond.methodLink RX5 122 yX5_shipOf, Cond.instanceMethod yX5_shipOf, Cond.selects RX5 yX5_shipOf yX5_shipOf, Cond.initialized RX5, Cond.code yX5_shipOf cX5_shipOf 2 (some (.object "TeaRace$Ship")), Cond.fieldLink RX5 26 "TeaRace" "fleet" "Ljava/util/List;", Cond.classLink RX5 113 "TeaRace$Ship", Cond.methodLink RX5 107 ⟨"java/util/List", "size", "()I"⟩, Cond.selects RJx4a65c ⟨"java/util/List", "size", "()I"⟩ yJx4a65c_size_8abf5, Cond.instanceMethod yJx4a65c_size_8abf5, Cond.initialized RJx4a65c, Cond.code yJx4a65c_size_8abf5 cJx4a65c_size_8abf5 1 (some .int), Cond.fieldLink RJx4a65c 48 "java/util/ArrayList" "size" "I", Cond.methodLink RX5 175 ⟨"java/util/List", "get", "(I)Ljava/lang/Object;"⟩, Cond.selects RJx4a65c ⟨"java/util/List", "get", "(I)Ljava/lang/Object;"⟩ yJx4a65c_get_915e3, Cond.instanceMethod yJx4a65c_get_915e3, Cond.code yJx4a65c_get_915e3 cJx4a65c_get_915e3 2 (some (.object "java/lang/Object")), Cond.methodLink RJx4a65c 118 yJ15_checkIndex_7cf53, Cond.static yJ15_checkIndex_7cf53, Cond.initialized RJ15, Cond.code yJ15_checkIndex_7cf53 cJ15_checkIndex_7cf53 2 (some .int), Cond.methodLink RJ15 105 yJ3_checkIndex_8e157, Cond.static yJ3_checkIndex_8e157]
def wsX5_distance_r2 : List Cond := [Cond.initialized RJ3, Cond.code yJ3_checkIndex_8e157 cJ3_checkIndex_8e157 3 (some .int), Cond.methodLink RJx4a65c 123 yJx4a65c_elementData_915e3, Cond.instanceMethod yJx4a65c_elementData_915e3, Cond.selects RJx4a65c yJx4a65c_elementData_915e3 yJx4a65c_elementData_915e3, Cond.code yJx4a65c_elementData_915e3 cJx4a65c_elementData_915e3 2 (some (.object "java/lang/Object")), Cond.fieldLink RJx4a65c 9 "java/util/ArrayList" "elementData" "[Ljava/lang/Object;", Cond.methodLink RX5 60 yX5_outside, Cond.static yX5_outside, Cond.code yX5_outside cX5_outside 2 (some .boolean), Cond.methodLink RX5 206 yX5_mostDistance, Cond.instanceMethod yX5_mostDistance, Cond.selects RX5 yX5_mostDistance yX5_mostDistance, Cond.code yX5_mostDistance cX5_mostDistance 7 (some .int), Cond.fieldLink RX5 298 "TeaRace$Sight" "cell" "I", Cond.fieldLink RX5 302 "TeaRace$Sight" "hour" "I", Cond.methodLink RX5 256 Lib.Math.min.name, Cond.static Lib.Math.min.name, Cond.initialized "java/lang/Math", Cond.code Lib.Math.min.name Lib.Math.min.code 2 (some .int), Cond.methodLink RX5 291 yX3_lastSightBy, Cond.instanceMethod yX3_lastSightBy, Cond.selects RX3 yX3_lastSightBy yX3_lastSightBy, Cond.initialized RX3]
def wsX5_distance_r3 : List Cond := [Cond.code yX3_lastSightBy cX3_lastSightBy 5 (some (.object "TeaRace$Sight")), Cond.fieldLink RX3 18 "TeaRace$Ship" "sights" "Ljava/util/List;", Cond.classLink RX3 101 "TeaRace$Sight", Cond.fieldLink RX3 103 "TeaRace$Sight" "hour" "I", Cond.methodLink RX3 78 ⟨"java/util/List", "size", "()I"⟩, Cond.methodLink RX3 83 ⟨"java/util/List", "get", "(I)Ljava/lang/Object;"⟩, Cond.methodLink RX5 295 yX3_firstSightFrom, Cond.instanceMethod yX3_firstSightFrom, Cond.selects RX3 yX3_firstSightFrom yX3_firstSightFrom, Cond.code yX3_firstSightFrom cX3_firstSightFrom 4 (some (.object "TeaRace$Sight")), Cond.methodLink RX5 299 yX5_distanceFromHome, Cond.instanceMethod yX5_distanceFromHome, Cond.selects RX5 yX5_distanceFromHome yX5_distanceFromHome, Cond.code yX5_distanceFromHome cX5_distanceFromHome 4 (some .int), Cond.fieldLink RX5 41 "TeaRace" "homeCell" "I", Cond.methodLink RX5 251 Lib.Math.abs.name, Cond.static Lib.Math.abs.name, Cond.code Lib.Math.abs.name Lib.Math.abs.code 1 (some .int), Cond.methodLink RX5 288 Lib.Math.max.name, Cond.static Lib.Math.max.name, Cond.code Lib.Math.max.name Lib.Math.max.code 2 (some .int), Cond.methodLink RX5 210 yX5_leastDistance, Cond.instanceMethod yX5_leastDistance, Cond.selects RX5 yX5_leastDistance yX5_leastDistance]
def wsX5_distance_r4 : List Cond := [Cond.code yX5_leastDistance cX5_leastDistance 7 (some .int)]
def wsX5_distance : List Cond := .code yX5_distance cX5_distance 5 (some .int) :: ((wsX5_distance_r1 ++ (wsX5_distance_r2 ++ (wsX5_distance_r3 ++ wsX5_distance_r4))) ++ wsX50 ++ wsJx4a65c0 ++ wsX40 ++ wsX30)
def wsX5_ahead_r1 : List Cond := [Cond.constant RX5 171 (100000), Cond.methodLink RX5 122 yX5_shipOf, Cond.instanceMethod yX5_shipOf, Cond.selects RX5 yX5_shipOf yX5_shipOf, Cond.initialized RX5, Cond.code yX5_shipOf cX5_shipOf 2 (some (.object "TeaRace$Ship")), Cond.fieldLink RX5 26 "TeaRace" "fleet" "Ljava/util/List;", Cond.classLink RX5 113 "TeaRace$Ship", Cond.methodLink RX5 107 ⟨"java/util/List", "size", "()I"⟩, Cond.selects RJx4a65c ⟨"java/util/List", "size", "()I"⟩ yJx4a65c_size_8abf5, Cond.instanceMethod yJx4a65c_size_8abf5, Cond.initialized RJx4a65c, Cond.code yJx4a65c_size_8abf5 cJx4a65c_size_8abf5 1 (some .int), Cond.fieldLink RJx4a65c 48 "java/util/ArrayList" "size" "I", Cond.methodLink RX5 175 ⟨"java/util/List", "get", "(I)Ljava/lang/Object;"⟩, Cond.selects RJx4a65c ⟨"java/util/List", "get", "(I)Ljava/lang/Object;"⟩ yJx4a65c_get_915e3, Cond.instanceMethod yJx4a65c_get_915e3, Cond.code yJx4a65c_get_915e3 cJx4a65c_get_915e3 2 (some (.object "java/lang/Object")), Cond.methodLink RJx4a65c 118 yJ15_checkIndex_7cf53, Cond.static yJ15_checkIndex_7cf53, Cond.initialized RJ15, Cond.code yJ15_checkIndex_7cf53 cJ15_checkIndex_7cf53 2 (some .int), Cond.methodLink RJ15 105 yJ3_checkIndex_8e157, Cond.static yJ3_checkIndex_8e157]
def wsX5_ahead_r2 : List Cond := [Cond.initialized RJ3, Cond.code yJ3_checkIndex_8e157 cJ3_checkIndex_8e157 3 (some .int), Cond.methodLink RJx4a65c 123 yJx4a65c_elementData_915e3, Cond.instanceMethod yJx4a65c_elementData_915e3, Cond.selects RJx4a65c yJx4a65c_elementData_915e3 yJx4a65c_elementData_915e3, Cond.code yJx4a65c_elementData_915e3 cJx4a65c_elementData_915e3 2 (some (.object "java/lang/Object")), Cond.fieldLink RJx4a65c 9 "java/util/ArrayList" "elementData" "[Ljava/lang/Object;", Cond.methodLink RX5 60 yX5_outside, Cond.static yX5_outside, Cond.code yX5_outside cX5_outside 2 (some .boolean), Cond.methodLink RX5 213 yX3_isSeenAround, Cond.instanceMethod yX3_isSeenAround, Cond.selects RX3 yX3_isSeenAround yX3_isSeenAround, Cond.initialized RX3, Cond.code yX3_isSeenAround cX3_isSeenAround 2 (some .boolean), Cond.methodLink RX3 98 yX3_lastSightBy, Cond.instanceMethod yX3_lastSightBy, Cond.selects RX3 yX3_lastSightBy yX3_lastSightBy, Cond.code yX3_lastSightBy cX3_lastSightBy 5 (some (.object "TeaRace$Sight")), Cond.fieldLink RX3 18 "TeaRace$Ship" "sights" "Ljava/util/List;", Cond.classLink RX3 101 "TeaRace$Sight", Cond.fieldLink RX3 103 "TeaRace$Sight" "hour" "I", Cond.methodLink RX3 78 ⟨"java/util/List", "size", "()I"⟩, Cond.methodLink RX3 83 ⟨"java/util/List", "get", "(I)Ljava/lang/Object;"⟩]
def wsX5_ahead_r3 : List Cond := [Cond.methodLink RX3 94 yX3_firstSightFrom, Cond.instanceMethod yX3_firstSightFrom, Cond.selects RX3 yX3_firstSightFrom yX3_firstSightFrom, Cond.code yX3_firstSightFrom cX3_firstSightFrom 4 (some (.object "TeaRace$Sight")), Cond.methodLink RX5 206 yX5_mostDistance, Cond.instanceMethod yX5_mostDistance, Cond.selects RX5 yX5_mostDistance yX5_mostDistance, Cond.code yX5_mostDistance cX5_mostDistance 7 (some .int), Cond.fieldLink RX5 298 "TeaRace$Sight" "cell" "I", Cond.fieldLink RX5 302 "TeaRace$Sight" "hour" "I", Cond.methodLink RX5 256 Lib.Math.min.name, Cond.static Lib.Math.min.name, Cond.initialized "java/lang/Math", Cond.code Lib.Math.min.name Lib.Math.min.code 2 (some .int), Cond.methodLink RX5 291 yX3_lastSightBy, Cond.methodLink RX5 295 yX3_firstSightFrom, Cond.methodLink RX5 299 yX5_distanceFromHome, Cond.instanceMethod yX5_distanceFromHome, Cond.selects RX5 yX5_distanceFromHome yX5_distanceFromHome, Cond.code yX5_distanceFromHome cX5_distanceFromHome 4 (some .int), Cond.fieldLink RX5 41 "TeaRace" "homeCell" "I", Cond.methodLink RX5 251 Lib.Math.abs.name, Cond.static Lib.Math.abs.name, Cond.code Lib.Math.abs.name Lib.Math.abs.code 1 (some .int)]
def wsX5_ahead_r4 : List Cond := [Cond.methodLink RX5 288 Lib.Math.max.name, Cond.static Lib.Math.max.name, Cond.code Lib.Math.max.name Lib.Math.max.code 2 (some .int), Cond.methodLink RX5 210 yX5_leastDistance, Cond.instanceMethod yX5_leastDistance, Cond.selects RX5 yX5_leastDistance yX5_leastDistance, Cond.code yX5_leastDistance cX5_leastDistance 7 (some .int)]
def wsX5_ahead : List Cond := .code yX5_ahead cX5_ahead 6 (some .int) :: ((wsX5_ahead_r1 ++ (wsX5_ahead_r2 ++ (wsX5_ahead_r3 ++ wsX5_ahead_r4))) ++ wsX50 ++ wsJx4a65c0 ++ wsX30 ++ wsX40)
def wsX5_charter_r1 : List Cond := [Cond.constant RX5 171 (100000), Cond.fieldLink RX5 216 "TeaRace$Ship" "rate" "I", Cond.fieldLink RX5 219 "TeaRace$Ship" "premium" "I", Cond.methodLink RX5 122 yX5_shipOf, Cond.instanceMethod yX5_shipOf, Cond.selects RX5 yX5_shipOf yX5_shipOf, Cond.initialized RX5, Cond.code yX5_shipOf cX5_shipOf 2 (some (.object "TeaRace$Ship")), Cond.fieldLink RX5 26 "TeaRace" "fleet" "Ljava/util/List;", Cond.classLink RX5 113 "TeaRace$Ship", Cond.methodLink RX5 107 ⟨"java/util/List", "size", "()I"⟩, Cond.selects RJx4a65c ⟨"java/util/List", "size", "()I"⟩ yJx4a65c_size_8abf5, Cond.instanceMethod yJx4a65c_size_8abf5, Cond.initialized RJx4a65c, Cond.code yJx4a65c_size_8abf5 cJx4a65c_size_8abf5 1 (some .int), Cond.fieldLink RJx4a65c 48 "java/util/ArrayList" "size" "I", Cond.methodLink RX5 175 ⟨"java/util/List", "get", "(I)Ljava/lang/Object;"⟩, Cond.selects RJx4a65c ⟨"java/util/List", "get", "(I)Ljava/lang/Object;"⟩ yJx4a65c_get_915e3, Cond.instanceMethod yJx4a65c_get_915e3, Cond.code yJx4a65c_get_915e3 cJx4a65c_get_915e3 2 (some (.object "java/lang/Object")), Cond.methodLink RJx4a65c 118 yJ15_checkIndex_7cf53, Cond.static yJ15_checkIndex_7cf53, Cond.initialized RJ15, Cond.code yJ15_checkIndex_7cf53 cJ15_checkIndex_7cf53 2 (some .int)]
def wsX5_charter_r2 : List Cond := [Cond.methodLink RJ15 105 yJ3_checkIndex_8e157, Cond.static yJ3_checkIndex_8e157, Cond.initialized RJ3, Cond.code yJ3_checkIndex_8e157 cJ3_checkIndex_8e157 3 (some .int), Cond.methodLink RJx4a65c 123 yJx4a65c_elementData_915e3, Cond.instanceMethod yJx4a65c_elementData_915e3, Cond.selects RJx4a65c yJx4a65c_elementData_915e3 yJx4a65c_elementData_915e3, Cond.code yJx4a65c_elementData_915e3 cJx4a65c_elementData_915e3 2 (some (.object "java/lang/Object")), Cond.fieldLink RJx4a65c 9 "java/util/ArrayList" "elementData" "[Ljava/lang/Object;", Cond.methodLink RX5 60 yX5_outside, Cond.static yX5_outside, Cond.code yX5_outside cX5_outside 2 (some .boolean)]
def wsX5_charter : List Cond := .code yX5_charter cX5_charter 5 (some .int) :: ((wsX5_charter_r1 ++ wsX5_charter_r2) ++ wsX30 ++ wsX50 ++ wsJx4a65c0)
def wsX5_freight_r1 : List Cond := [Cond.fieldLink RX5 219 "TeaRace$Ship" "premium" "I", Cond.fieldLink RX5 147 "TeaRace$Ship" "chests" "I", Cond.fieldLink RX5 216 "TeaRace$Ship" "rate" "I", Cond.methodLink RX5 122 yX5_shipOf, Cond.instanceMethod yX5_shipOf, Cond.selects RX5 yX5_shipOf yX5_shipOf, Cond.initialized RX5, Cond.code yX5_shipOf cX5_shipOf 2 (some (.object "TeaRace$Ship")), Cond.fieldLink RX5 26 "TeaRace" "fleet" "Ljava/util/List;", Cond.classLink RX5 113 "TeaRace$Ship", Cond.methodLink RX5 107 ⟨"java/util/List", "size", "()I"⟩, Cond.selects RJx4a65c ⟨"java/util/List", "size", "()I"⟩ yJx4a65c_size_8abf5, Cond.instanceMethod yJx4a65c_size_8abf5, Cond.initialized RJx4a65c, Cond.code yJx4a65c_size_8abf5 cJx4a65c_size_8abf5 1 (some .int), Cond.fieldLink RJx4a65c 48 "java/util/ArrayList" "size" "I", Cond.methodLink RX5 175 ⟨"java/util/List", "get", "(I)Ljava/lang/Object;"⟩, Cond.selects RJx4a65c ⟨"java/util/List", "get", "(I)Ljava/lang/Object;"⟩ yJx4a65c_get_915e3, Cond.instanceMethod yJx4a65c_get_915e3, Cond.code yJx4a65c_get_915e3 cJx4a65c_get_915e3 2 (some (.object "java/lang/Object")), Cond.methodLink RJx4a65c 118 yJ15_checkIndex_7cf53, Cond.static yJ15_checkIndex_7cf53, Cond.initialized RJ15, Cond.code yJ15_checkIndex_7cf53 cJ15_checkIndex_7cf53 2 (some .int)]
def wsX5_freight_r2 : List Cond := [Cond.methodLink RJ15 105 yJ3_checkIndex_8e157, Cond.static yJ3_checkIndex_8e157, Cond.initialized RJ3, Cond.code yJ3_checkIndex_8e157 cJ3_checkIndex_8e157 3 (some .int), Cond.methodLink RJx4a65c 123 yJx4a65c_elementData_915e3, Cond.instanceMethod yJx4a65c_elementData_915e3, Cond.selects RJx4a65c yJx4a65c_elementData_915e3 yJx4a65c_elementData_915e3, Cond.code yJx4a65c_elementData_915e3 cJx4a65c_elementData_915e3 2 (some (.object "java/lang/Object")), Cond.fieldLink RJx4a65c 9 "java/util/ArrayList" "elementData" "[Ljava/lang/Object;", Cond.methodLink RX5 222 yX3_isHome, Cond.instanceMethod yX3_isHome, Cond.selects RX3 yX3_isHome yX3_isHome, Cond.initialized RX3, Cond.code yX3_isHome cX3_isHome 1 (some .boolean), Cond.fieldLink RX3 34 "TeaRace$Ship" "homeHour" "I", Cond.methodLink RX5 183 yX5_theFirst, Cond.instanceMethod yX5_theFirst, Cond.selects RX5 yX5_theFirst yX5_theFirst, Cond.code yX5_theFirst cX5_theFirst 4 (some (.object "TeaRace$Ship")), Cond.methodLink RX5 284 yX3_beats, Cond.instanceMethod yX3_beats, Cond.selects RX3 yX3_beats yX3_beats, Cond.code yX3_beats cX3_beats 2 (some .boolean), Cond.fieldLink RX3 37 "TeaRace$Ship" "entry" "I"]
def wsX5_freight_r3 : List Cond := [Cond.fieldLink RX3 46 "TeaRace$Ship" "number" "I"]
end
section
def wsX5_freight : List Cond := .code yX5_freight cX5_freight 4 (some .int) :: ((wsX5_freight_r1 ++ (wsX5_freight_r2 ++ wsX5_freight_r3)) ++ wsX30 ++ wsX50 ++ wsJx4a65c0)
def wsX5_market : List Cond := .code yX5_market cX5_market 3 (some .int) :: ([.fieldLink RX5 50 "TeaRace" "priceAtFirst" "I", .fieldLink RX5 53 "TeaRace" "fallOfPrice" "I", .methodLink RX5 60 yX5_outside, .static yX5_outside, .initialized RX5, .code yX5_outside cX5_outside 2 (some .boolean)] ++ wsX50)
def wsX5_priceAtEntry_r1 : List Cond := [Cond.fieldLink RX5 26 "TeaRace" "fleet" "Ljava/util/List;", Cond.classLink RX5 113 "TeaRace$Ship", Cond.fieldLink RX5 147 "TeaRace$Ship" "chests" "I", Cond.fieldLink RX5 50 "TeaRace" "priceAtFirst" "I", Cond.fieldLink RX5 53 "TeaRace" "fallOfPrice" "I", Cond.methodLink RX5 288 Lib.Math.max.name, Cond.static Lib.Math.max.name, Cond.initialized "java/lang/Math", Cond.code Lib.Math.max.name Lib.Math.max.code 2 (some .int), Cond.methodLink RX5 107 ⟨"java/util/List", "size", "()I"⟩, Cond.selects RJx4a65c ⟨"java/util/List", "size", "()I"⟩ yJx4a65c_size_8abf5, Cond.instanceMethod yJx4a65c_size_8abf5, Cond.initialized RJx4a65c, Cond.code yJx4a65c_size_8abf5 cJx4a65c_size_8abf5 1 (some .int), Cond.fieldLink RJx4a65c 48 "java/util/ArrayList" "size" "I", Cond.methodLink RX5 175 ⟨"java/util/List", "get", "(I)Ljava/lang/Object;"⟩, Cond.selects RJx4a65c ⟨"java/util/List", "get", "(I)Ljava/lang/Object;"⟩ yJx4a65c_get_915e3, Cond.instanceMethod yJx4a65c_get_915e3, Cond.code yJx4a65c_get_915e3 cJx4a65c_get_915e3 2 (some (.object "java/lang/Object")), Cond.methodLink RJx4a65c 118 yJ15_checkIndex_7cf53, Cond.static yJ15_checkIndex_7cf53, Cond.initialized RJ15, Cond.code yJ15_checkIndex_7cf53 cJ15_checkIndex_7cf53 2 (some .int), Cond.methodLink RJ15 105 yJ3_checkIndex_8e157]
def wsX5_priceAtEntry_r2 : List Cond := [Cond.static yJ3_checkIndex_8e157, Cond.initialized RJ3, Cond.code yJ3_checkIndex_8e157 cJ3_checkIndex_8e157 3 (some .int), Cond.methodLink RJx4a65c 123 yJx4a65c_elementData_915e3, Cond.instanceMethod yJx4a65c_elementData_915e3, Cond.selects RJx4a65c yJx4a65c_elementData_915e3 yJx4a65c_elementData_915e3, Cond.code yJx4a65c_elementData_915e3 cJx4a65c_elementData_915e3 2 (some (.object "java/lang/Object")), Cond.fieldLink RJx4a65c 9 "java/util/ArrayList" "elementData" "[Ljava/lang/Object;", Cond.methodLink RX5 222 yX3_isHome, Cond.instanceMethod yX3_isHome, Cond.selects RX3 yX3_isHome yX3_isHome, Cond.initialized RX3, Cond.code yX3_isHome cX3_isHome 1 (some .boolean), Cond.fieldLink RX3 34 "TeaRace$Ship" "homeHour" "I", Cond.methodLink RX5 303 yX3_entersBefore, Cond.instanceMethod yX3_entersBefore, Cond.selects RX3 yX3_entersBefore yX3_entersBefore, Cond.code yX3_entersBefore cX3_entersBefore 2 (some .boolean), Cond.fieldLink RX3 37 "TeaRace$Ship" "entry" "I", Cond.fieldLink RX3 46 "TeaRace$Ship" "number" "I"]
def wsX5_priceAtEntry : List Cond := .code yX5_priceAtEntry cX5_priceAtEntry 5 (some .int) :: ((wsX5_priceAtEntry_r1 ++ wsX5_priceAtEntry_r2) ++ wsX50 ++ wsX30 ++ wsJx4a65c0)
def wsX5_takings_r1 : List Cond := [Cond.fieldLink RX5 147 "TeaRace$Ship" "chests" "I", Cond.methodLink RX5 230 yX5_priceAtEntry, Cond.instanceMethod yX5_priceAtEntry, Cond.selects RX5 yX5_priceAtEntry yX5_priceAtEntry, Cond.initialized RX5, Cond.code yX5_priceAtEntry cX5_priceAtEntry 5 (some .int), Cond.fieldLink RX5 26 "TeaRace" "fleet" "Ljava/util/List;", Cond.classLink RX5 113 "TeaRace$Ship", Cond.fieldLink RX5 50 "TeaRace" "priceAtFirst" "I", Cond.fieldLink RX5 53 "TeaRace" "fallOfPrice" "I", Cond.methodLink RX5 288 Lib.Math.max.name, Cond.static Lib.Math.max.name, Cond.initialized "java/lang/Math", Cond.code Lib.Math.max.name Lib.Math.max.code 2 (some .int), Cond.methodLink RX5 107 ⟨"java/util/List", "size", "()I"⟩, Cond.selects RJx4a65c ⟨"java/util/List", "size", "()I"⟩ yJx4a65c_size_8abf5, Cond.instanceMethod yJx4a65c_size_8abf5, Cond.initialized RJx4a65c, Cond.code yJx4a65c_size_8abf5 cJx4a65c_size_8abf5 1 (some .int), Cond.fieldLink RJx4a65c 48 "java/util/ArrayList" "size" "I", Cond.methodLink RX5 175 ⟨"java/util/List", "get", "(I)Ljava/lang/Object;"⟩, Cond.selects RJx4a65c ⟨"java/util/List", "get", "(I)Ljava/lang/Object;"⟩ yJx4a65c_get_915e3, Cond.instanceMethod yJx4a65c_get_915e3, Cond.code yJx4a65c_get_915e3 cJx4a65c_get_915e3 2 (some (.object "java/lang/Object"))]
def wsX5_takings_r2 : List Cond := [Cond.methodLink RJx4a65c 118 yJ15_checkIndex_7cf53, Cond.static yJ15_checkIndex_7cf53, Cond.initialized RJ15, Cond.code yJ15_checkIndex_7cf53 cJ15_checkIndex_7cf53 2 (some .int), Cond.methodLink RJ15 105 yJ3_checkIndex_8e157, Cond.static yJ3_checkIndex_8e157, Cond.initialized RJ3, Cond.code yJ3_checkIndex_8e157 cJ3_checkIndex_8e157 3 (some .int), Cond.methodLink RJx4a65c 123 yJx4a65c_elementData_915e3, Cond.instanceMethod yJx4a65c_elementData_915e3, Cond.selects RJx4a65c yJx4a65c_elementData_915e3 yJx4a65c_elementData_915e3, Cond.code yJx4a65c_elementData_915e3 cJx4a65c_elementData_915e3 2 (some (.object "java/lang/Object")), Cond.fieldLink RJx4a65c 9 "java/util/ArrayList" "elementData" "[Ljava/lang/Object;", Cond.methodLink RX5 222 yX3_isHome, Cond.instanceMethod yX3_isHome, Cond.selects RX3 yX3_isHome yX3_isHome, Cond.initialized RX3, Cond.code yX3_isHome cX3_isHome 1 (some .boolean), Cond.fieldLink RX3 34 "TeaRace$Ship" "homeHour" "I", Cond.methodLink RX5 303 yX3_entersBefore, Cond.instanceMethod yX3_entersBefore, Cond.selects RX3 yX3_entersBefore yX3_entersBefore, Cond.code yX3_entersBefore cX3_entersBefore 2 (some .boolean), Cond.fieldLink RX3 37 "TeaRace$Ship" "entry" "I"]
def wsX5_takings_r3 : List Cond := [Cond.fieldLink RX3 46 "TeaRace$Ship" "number" "I"]
def wsX5_takings : List Cond := .code yX5_takings cX5_takings 2 (some .long) :: ((wsX5_takings_r1 ++ (wsX5_takings_r2 ++ wsX5_takings_r3)) ++ wsX30 ++ wsX50 ++ wsJx4a65c0)
def wsX5_sale_r1 : List Cond := [Cond.fieldLink RX5 56 "TeaRace" "latestSale" "J", Cond.methodLink RX5 122 yX5_shipOf, Cond.instanceMethod yX5_shipOf, Cond.selects RX5 yX5_shipOf yX5_shipOf, Cond.initialized RX5, Cond.code yX5_shipOf cX5_shipOf 2 (some (.object "TeaRace$Ship")), Cond.fieldLink RX5 26 "TeaRace" "fleet" "Ljava/util/List;", Cond.classLink RX5 113 "TeaRace$Ship", Cond.methodLink RX5 107 ⟨"java/util/List", "size", "()I"⟩, Cond.selects RJx4a65c ⟨"java/util/List", "size", "()I"⟩ yJx4a65c_size_8abf5, Cond.instanceMethod yJx4a65c_size_8abf5, Cond.initialized RJx4a65c, Cond.code yJx4a65c_size_8abf5 cJx4a65c_size_8abf5 1 (some .int), Cond.fieldLink RJx4a65c 48 "java/util/ArrayList" "size" "I", Cond.methodLink RX5 175 ⟨"java/util/List", "get", "(I)Ljava/lang/Object;"⟩, Cond.selects RJx4a65c ⟨"java/util/List", "get", "(I)Ljava/lang/Object;"⟩ yJx4a65c_get_915e3, Cond.instanceMethod yJx4a65c_get_915e3, Cond.code yJx4a65c_get_915e3 cJx4a65c_get_915e3 2 (some (.object "java/lang/Object")), Cond.methodLink RJx4a65c 118 yJ15_checkIndex_7cf53, Cond.static yJ15_checkIndex_7cf53, Cond.initialized RJ15, Cond.code yJ15_checkIndex_7cf53 cJ15_checkIndex_7cf53 2 (some .int), Cond.methodLink RJ15 105 yJ3_checkIndex_8e157, Cond.static yJ3_checkIndex_8e157]
def wsX5_sale_r2 : List Cond := [Cond.initialized RJ3, Cond.code yJ3_checkIndex_8e157 cJ3_checkIndex_8e157 3 (some .int), Cond.methodLink RJx4a65c 123 yJx4a65c_elementData_915e3, Cond.instanceMethod yJx4a65c_elementData_915e3, Cond.selects RJx4a65c yJx4a65c_elementData_915e3 yJx4a65c_elementData_915e3, Cond.code yJx4a65c_elementData_915e3 cJx4a65c_elementData_915e3 2 (some (.object "java/lang/Object")), Cond.fieldLink RJx4a65c 9 "java/util/ArrayList" "elementData" "[Ljava/lang/Object;", Cond.methodLink RX5 222 yX3_isHome, Cond.instanceMethod yX3_isHome, Cond.selects RX3 yX3_isHome yX3_isHome, Cond.initialized RX3, Cond.code yX3_isHome cX3_isHome 1 (some .boolean), Cond.fieldLink RX3 34 "TeaRace$Ship" "homeHour" "I", Cond.methodLink RX5 226 yX5_takings, Cond.instanceMethod yX5_takings, Cond.selects RX5 yX5_takings yX5_takings, Cond.code yX5_takings cX5_takings 2 (some .long), Cond.fieldLink RX5 147 "TeaRace$Ship" "chests" "I", Cond.methodLink RX5 230 yX5_priceAtEntry, Cond.instanceMethod yX5_priceAtEntry, Cond.selects RX5 yX5_priceAtEntry yX5_priceAtEntry, Cond.code yX5_priceAtEntry cX5_priceAtEntry 5 (some .int), Cond.fieldLink RX5 50 "TeaRace" "priceAtFirst" "I", Cond.fieldLink RX5 53 "TeaRace" "fallOfPrice" "I"]
def wsX5_sale_r3 : List Cond := [Cond.methodLink RX5 288 Lib.Math.max.name, Cond.static Lib.Math.max.name, Cond.initialized "java/lang/Math", Cond.code Lib.Math.max.name Lib.Math.max.code 2 (some .int), Cond.methodLink RX5 303 yX3_entersBefore, Cond.instanceMethod yX3_entersBefore, Cond.selects RX3 yX3_entersBefore yX3_entersBefore, Cond.code yX3_entersBefore cX3_entersBefore 2 (some .boolean), Cond.fieldLink RX3 37 "TeaRace$Ship" "entry" "I", Cond.fieldLink RX3 46 "TeaRace$Ship" "number" "I"]
def wsX5_sale : List Cond := .code yX5_sale cX5_sale 3 (some .int) :: ((wsX5_sale_r1 ++ (wsX5_sale_r2 ++ wsX5_sale_r3)) ++ wsX50 ++ wsJx4a65c0 ++ wsX30)
def wsX5_meanPrice_r1 : List Cond := [Cond.fieldLink RX5 26 "TeaRace" "fleet" "Ljava/util/List;", Cond.classLink RX5 113 "TeaRace$Ship", Cond.fieldLink RX5 147 "TeaRace$Ship" "chests" "I", Cond.methodLink RX5 107 ⟨"java/util/List", "size", "()I"⟩, Cond.selects RJx4a65c ⟨"java/util/List", "size", "()I"⟩ yJx4a65c_size_8abf5, Cond.instanceMethod yJx4a65c_size_8abf5, Cond.initialized RJx4a65c, Cond.code yJx4a65c_size_8abf5 cJx4a65c_size_8abf5 1 (some .int), Cond.fieldLink RJx4a65c 48 "java/util/ArrayList" "size" "I", Cond.methodLink RX5 175 ⟨"java/util/List", "get", "(I)Ljava/lang/Object;"⟩, Cond.selects RJx4a65c ⟨"java/util/List", "get", "(I)Ljava/lang/Object;"⟩ yJx4a65c_get_915e3, Cond.instanceMethod yJx4a65c_get_915e3, Cond.code yJx4a65c_get_915e3 cJx4a65c_get_915e3 2 (some (.object "java/lang/Object")), Cond.methodLink RJx4a65c 118 yJ15_checkIndex_7cf53, Cond.static yJ15_checkIndex_7cf53, Cond.initialized RJ15, Cond.code yJ15_checkIndex_7cf53 cJ15_checkIndex_7cf53 2 (some .int), Cond.methodLink RJ15 105 yJ3_checkIndex_8e157, Cond.static yJ3_checkIndex_8e157, Cond.initialized RJ3, Cond.code yJ3_checkIndex_8e157 cJ3_checkIndex_8e157 3 (some .int), Cond.methodLink RJx4a65c 123 yJx4a65c_elementData_915e3, Cond.instanceMethod yJx4a65c_elementData_915e3, Cond.selects RJx4a65c yJx4a65c_elementData_915e3 yJx4a65c_elementData_915e3]
def wsX5_meanPrice_r2 : List Cond := [Cond.code yJx4a65c_elementData_915e3 cJx4a65c_elementData_915e3 2 (some (.object "java/lang/Object")), Cond.fieldLink RJx4a65c 9 "java/util/ArrayList" "elementData" "[Ljava/lang/Object;", Cond.methodLink RX5 222 yX3_isHome, Cond.instanceMethod yX3_isHome, Cond.selects RX3 yX3_isHome yX3_isHome, Cond.initialized RX3, Cond.code yX3_isHome cX3_isHome 1 (some .boolean), Cond.fieldLink RX3 34 "TeaRace$Ship" "homeHour" "I", Cond.methodLink RX5 226 yX5_takings, Cond.instanceMethod yX5_takings, Cond.selects RX5 yX5_takings yX5_takings, Cond.initialized RX5, Cond.code yX5_takings cX5_takings 2 (some .long), Cond.methodLink RX5 230 yX5_priceAtEntry, Cond.instanceMethod yX5_priceAtEntry, Cond.selects RX5 yX5_priceAtEntry yX5_priceAtEntry, Cond.code yX5_priceAtEntry cX5_priceAtEntry 5 (some .int), Cond.fieldLink RX5 50 "TeaRace" "priceAtFirst" "I", Cond.fieldLink RX5 53 "TeaRace" "fallOfPrice" "I", Cond.methodLink RX5 288 Lib.Math.max.name, Cond.static Lib.Math.max.name, Cond.initialized "java/lang/Math", Cond.code Lib.Math.max.name Lib.Math.max.code 2 (some .int), Cond.methodLink RX5 303 yX3_entersBefore]
def wsX5_meanPrice_r3 : List Cond := [Cond.instanceMethod yX3_entersBefore, Cond.selects RX3 yX3_entersBefore yX3_entersBefore, Cond.code yX3_entersBefore cX3_entersBefore 2 (some .boolean), Cond.fieldLink RX3 37 "TeaRace$Ship" "entry" "I", Cond.fieldLink RX3 46 "TeaRace$Ship" "number" "I", Cond.methodLink RX5 79 yX5_found, Cond.instanceMethod yX5_found, Cond.selects RX5 yX5_found yX5_found, Cond.code yX5_found cX5_found 2 (some .int), Cond.fieldLink RX5 34 "TeaRace" "latestFinding" "I", Cond.fieldLink RX5 30 "TeaRace" "findingCounts" "[I"]
def wsX5_meanPrice : List Cond := .code yX5_meanPrice cX5_meanPrice 7 (some .int) :: ((wsX5_meanPrice_r1 ++ (wsX5_meanPrice_r2 ++ wsX5_meanPrice_r3)) ++ wsX50 ++ wsX30 ++ wsJx4a65c0)
def wsX5_asked : List Cond := .code yX5_asked cX5_asked 1 (some .long) :: ([.fieldLink RX5 56 "TeaRace" "latestSale" "J"] ++ wsX50)
def wsX5_count_r1 : List Cond := [Cond.fieldLink RX5 26 "TeaRace" "fleet" "Ljava/util/List;", Cond.fieldLink RX5 38 "TeaRace" "hour" "I", Cond.fieldLink RX5 10 "TeaRace" "sea" "LTeaRace$Sea;", Cond.fieldLink RX5 47 "TeaRace" "sightCount" "I", Cond.methodLink RX5 107 ⟨"java/util/List", "size", "()I"⟩, Cond.selects RJx4a65c ⟨"java/util/List", "size", "()I"⟩ yJx4a65c_size_8abf5, Cond.instanceMethod yJx4a65c_size_8abf5, Cond.initialized RJx4a65c, Cond.code yJx4a65c_size_8abf5 cJx4a65c_size_8abf5 1 (some .int), Cond.fieldLink RJx4a65c 48 "java/util/ArrayList" "size" "I", Cond.methodLink RX5 234 yX2_chartsThere, Cond.instanceMethod yX2_chartsThere, Cond.selects RX2 yX2_chartsThere yX2_chartsThere, Cond.initialized RX2, Cond.code yX2_chartsThere cX2_chartsThere 3 (some .int), Cond.fieldLink RX2 15 "TeaRace$Sea" "chartThere" "[Z", Cond.methodLink RX5 172 yX5_shipsHome, Cond.instanceMethod yX5_shipsHome, Cond.selects RX5 yX5_shipsHome yX5_shipsHome, Cond.initialized RX5, Cond.code yX5_shipsHome cX5_shipsHome 3 (some .int), Cond.classLink RX5 113 "TeaRace$Ship", Cond.methodLink RX5 175 ⟨"java/util/List", "get", "(I)Ljava/lang/Object;"⟩, Cond.selects RJx4a65c ⟨"java/util/List", "get", "(I)Ljava/lang/Object;"⟩ yJx4a65c_get_915e3]
def wsX5_count_r2 : List Cond := [Cond.instanceMethod yJx4a65c_get_915e3, Cond.code yJx4a65c_get_915e3 cJx4a65c_get_915e3 2 (some (.object "java/lang/Object")), Cond.methodLink RJx4a65c 118 yJ15_checkIndex_7cf53, Cond.static yJ15_checkIndex_7cf53, Cond.initialized RJ15, Cond.code yJ15_checkIndex_7cf53 cJ15_checkIndex_7cf53 2 (some .int), Cond.methodLink RJ15 105 yJ3_checkIndex_8e157, Cond.static yJ3_checkIndex_8e157, Cond.initialized RJ3, Cond.code yJ3_checkIndex_8e157 cJ3_checkIndex_8e157 3 (some .int), Cond.methodLink RJx4a65c 123 yJx4a65c_elementData_915e3, Cond.instanceMethod yJx4a65c_elementData_915e3, Cond.selects RJx4a65c yJx4a65c_elementData_915e3 yJx4a65c_elementData_915e3, Cond.code yJx4a65c_elementData_915e3 cJx4a65c_elementData_915e3 2 (some (.object "java/lang/Object")), Cond.fieldLink RJx4a65c 9 "java/util/ArrayList" "elementData" "[Ljava/lang/Object;", Cond.methodLink RX5 222 yX3_isHome, Cond.instanceMethod yX3_isHome, Cond.selects RX3 yX3_isHome yX3_isHome, Cond.initialized RX3, Cond.code yX3_isHome cX3_isHome 1 (some .boolean), Cond.fieldLink RX3 34 "TeaRace$Ship" "homeHour" "I"]
def wsX5_count : List Cond := .code yX5_count cX5_count 2 (some .int) :: ((wsX5_count_r1 ++ wsX5_count_r2) ++ wsX50 ++ wsJx4a65c0 ++ wsX20 ++ wsX30)
def wsX5_finding : List Cond := .code yX5_finding cX5_finding 1 (some .int) :: ([.fieldLink RX5 34 "TeaRace" "latestFinding" "I"] ++ wsX50)
def wsX5_findings : List Cond := .code yX5_findings cX5_findings 2 (some .int) :: ([.fieldLink RX5 30 "TeaRace" "findingCounts" "[I"] ++ wsX50)
def wsX5_digest_r1 : List Cond := [Cond.constantLong RX5 237 (17), Cond.constantLong RX5 239 (31), Cond.fieldLink RX5 26 "TeaRace" "fleet" "Ljava/util/List;", Cond.fieldLink RX5 10 "TeaRace" "sea" "LTeaRace$Sea;", Cond.methodLink RX5 241 yX5_count, Cond.instanceMethod yX5_count, Cond.selects RX5 yX5_count yX5_count, Cond.initialized RX5, Cond.code yX5_count cX5_count 2 (some .int), Cond.fieldLink RX5 38 "TeaRace" "hour" "I", Cond.fieldLink RX5 47 "TeaRace" "sightCount" "I", Cond.methodLink RX5 107 ⟨"java/util/List", "size", "()I"⟩, Cond.selects RJx4a65c ⟨"java/util/List", "size", "()I"⟩ yJx4a65c_size_8abf5, Cond.instanceMethod yJx4a65c_size_8abf5, Cond.initialized RJx4a65c, Cond.code yJx4a65c_size_8abf5 cJx4a65c_size_8abf5 1 (some .int), Cond.fieldLink RJx4a65c 48 "java/util/ArrayList" "size" "I", Cond.methodLink RX5 234 yX2_chartsThere, Cond.instanceMethod yX2_chartsThere, Cond.selects RX2 yX2_chartsThere yX2_chartsThere, Cond.initialized RX2, Cond.code yX2_chartsThere cX2_chartsThere 3 (some .int), Cond.fieldLink RX2 15 "TeaRace$Sea" "chartThere" "[Z", Cond.methodLink RX5 172 yX5_shipsHome]
def wsX5_digest_r2 : List Cond := [Cond.instanceMethod yX5_shipsHome, Cond.selects RX5 yX5_shipsHome yX5_shipsHome, Cond.code yX5_shipsHome cX5_shipsHome 3 (some .int), Cond.classLink RX5 113 "TeaRace$Ship", Cond.methodLink RX5 175 ⟨"java/util/List", "get", "(I)Ljava/lang/Object;"⟩, Cond.selects RJx4a65c ⟨"java/util/List", "get", "(I)Ljava/lang/Object;"⟩ yJx4a65c_get_915e3, Cond.instanceMethod yJx4a65c_get_915e3, Cond.code yJx4a65c_get_915e3 cJx4a65c_get_915e3 2 (some (.object "java/lang/Object")), Cond.methodLink RJx4a65c 118 yJ15_checkIndex_7cf53, Cond.static yJ15_checkIndex_7cf53, Cond.initialized RJ15, Cond.code yJ15_checkIndex_7cf53 cJ15_checkIndex_7cf53 2 (some .int), Cond.methodLink RJ15 105 yJ3_checkIndex_8e157, Cond.static yJ3_checkIndex_8e157, Cond.initialized RJ3, Cond.code yJ3_checkIndex_8e157 cJ3_checkIndex_8e157 3 (some .int), Cond.methodLink RJx4a65c 123 yJx4a65c_elementData_915e3, Cond.instanceMethod yJx4a65c_elementData_915e3, Cond.selects RJx4a65c yJx4a65c_elementData_915e3 yJx4a65c_elementData_915e3, Cond.code yJx4a65c_elementData_915e3 cJx4a65c_elementData_915e3 2 (some (.object "java/lang/Object")), Cond.fieldLink RJx4a65c 9 "java/util/ArrayList" "elementData" "[Ljava/lang/Object;", Cond.methodLink RX5 222 yX3_isHome, Cond.instanceMethod yX3_isHome, Cond.selects RX3 yX3_isHome yX3_isHome]
def wsX5_digest_r3 : List Cond := [Cond.initialized RX3, Cond.code yX3_isHome cX3_isHome 1 (some .boolean), Cond.fieldLink RX3 34 "TeaRace$Ship" "homeHour" "I", Cond.methodLink RX5 244 yX5_told, Cond.instanceMethod yX5_told, Cond.selects RX5 yX5_told yX5_told, Cond.code yX5_told cX5_told 4 (some .int), Cond.fieldLink RX5 129 "TeaRace$Ship" "kind" "I", Cond.fieldLink RX5 132 "TeaRace$Ship" "cell" "I", Cond.fieldLink RX5 135 "TeaRace$Ship" "gone" "I", Cond.fieldLink RX5 138 "TeaRace$Ship" "way" "I", Cond.fieldLink RX5 141 "TeaRace$Ship" "homeHour" "I", Cond.fieldLink RX5 144 "TeaRace$Ship" "entry" "I", Cond.fieldLink RX5 147 "TeaRace$Ship" "chests" "I", Cond.methodLink RX5 122 yX5_shipOf, Cond.instanceMethod yX5_shipOf, Cond.selects RX5 yX5_shipOf yX5_shipOf, Cond.code yX5_shipOf cX5_shipOf 2 (some (.object "TeaRace$Ship")), Cond.methodLink RX5 247 yX2_digestChart, Cond.instanceMethod yX2_digestChart, Cond.selects RX2 yX2_digestChart yX2_digestChart, Cond.code yX2_digestChart cX2_digestChart 7 (some .long), Cond.constantLong RX2 53 (31), Cond.methodLink RX2 33 yX2_hasChart]
def wsX5_digest_r4 : List Cond := [Cond.instanceMethod yX2_hasChart, Cond.selects RX2 yX2_hasChart yX2_hasChart, Cond.code yX2_hasChart cX2_hasChart 2 (some .boolean), Cond.static yX5_outside, Cond.code yX5_outside cX5_outside 2 (some .boolean), Cond.methodLink RX2 55 yX2_drawnAt, Cond.instanceMethod yX2_drawnAt, Cond.selects RX2 yX2_drawnAt yX2_drawnAt, Cond.code yX2_drawnAt cX2_drawnAt 3 (some .int), Cond.fieldLink RX2 20 "TeaRace$Sea" "charts" "[[B"]
def wsX5_digest : List Cond := .code yX5_digest cX5_digest 5 (some .long) :: ((wsX5_digest_r1 ++ (wsX5_digest_r2 ++ (wsX5_digest_r3 ++ wsX5_digest_r4))) ++ wsX50 ++ wsJx4a65c0 ++ wsX20 ++ wsX30)
def wsX6_init_r1 : List Cond := [Cond.methodLink RX6 1 objectInit, Cond.instanceMethod objectInit, Cond.code objectInit ⟨#[0xb1]⟩ 1 none, Cond.arrayClass .int, Cond.fieldLink RX6 7 "TeaRaceModel" "findings" "[I", Cond.arrayClass .boolean, Cond.fieldLink RX6 13 "TeaRaceModel" "isLand" "[Z", Cond.fieldLink RX6 17 "TeaRaceModel" "isChart" "[Z", Cond.fieldLink RX6 20 "TeaRaceModel" "winds" "[I", Cond.fieldLink RX6 23 "TeaRaceModel" "moving" "[I", Cond.fieldLink RX6 26 "TeaRaceModel" "kinds" "[I", Cond.fieldLink RX6 29 "TeaRaceModel" "cells" "[I", Cond.fieldLink RX6 32 "TeaRaceModel" "gone" "[I", Cond.fieldLink RX6 35 "TeaRaceModel" "ways" "[I", Cond.fieldLink RX6 38 "TeaRaceModel" "homeAt" "[I", Cond.fieldLink RX6 41 "TeaRaceModel" "chests" "[I", Cond.fieldLink RX6 44 "TeaRaceModel" "foulness" "[I", Cond.fieldLink RX6 47 "TeaRaceModel" "came" "[I", Cond.fieldLink RX6 50 "TeaRaceModel" "orders" "[I", Cond.fieldLink RX6 53 "TeaRaceModel" "orderRows" "[I", Cond.fieldLink RX6 56 "TeaRaceModel" "rates" "[I", Cond.fieldLink RX6 59 "TeaRaceModel" "premiums" "[I", Cond.fieldLink RX6 62 "TeaRaceModel" "hours" "[I", Cond.fieldLink RX6 65 "TeaRaceModel" "isSettled" "[Z"]
def wsX6_init_r2 : List Cond := [Cond.fieldLink RX6 68 "TeaRaceModel" "sightShip" "[I", Cond.fieldLink RX6 71 "TeaRaceModel" "sightCell" "[I", Cond.fieldLink RX6 74 "TeaRaceModel" "sightHour" "[I", Cond.fieldLink RX6 77 "TeaRaceModel" "price" "I", Cond.fieldLink RX6 81 "TeaRaceModel" "fall" "I"]
def wsX6_init : List Cond := .code yX6_init cX6_init 1 none :: ((wsX6_init_r1 ++ wsX6_init_r2) ++ wsX60)
def wsX6_in : List Cond := .code yX6_in cX6_in 3 (some .boolean) :: ([])
def wsX6_meets : List Cond := .code yX6_meets cX6_meets 2 (some .int) :: ([.fieldLink RX6 84 "TeaRaceModel" "finding" "I", .fieldLink RX6 7 "TeaRaceModel" "findings" "[I"] ++ wsX60)
def wsX6_isCell : List Cond := .code yX6_isCell cX6_isCell 1 (some .boolean) :: ([.methodLink RX6 87 yX6_in, .static yX6_in, .initialized RX6, .code yX6_in cX6_in 3 (some .boolean)])
def wsX6_isMonth : List Cond := .code yX6_isMonth cX6_isMonth 1 (some .boolean) :: ([.methodLink RX6 87 yX6_in, .static yX6_in, .initialized RX6, .code yX6_in cX6_in 3 (some .boolean)])
def wsX6_land : List Cond := .code yX6_land cX6_land 4 (some .int) :: ([.fieldLink RX6 13 "TeaRaceModel" "isLand" "[Z", .methodLink RX6 91 yX6_isCell, .static yX6_isCell, .initialized RX6, .code yX6_isCell cX6_isCell 1 (some .boolean), .methodLink RX6 87 yX6_in, .static yX6_in, .code yX6_in cX6_in 3 (some .boolean)] ++ wsX60)
def wsX6_looked : List Cond := .code yX6_looked cX6_looked 2 (some .int) :: ([.fieldLink RX6 17 "TeaRaceModel" "isChart" "[Z", .methodLink RX6 95 yX6_isMonth, .static yX6_isMonth, .initialized RX6, .code yX6_isMonth cX6_isMonth 1 (some .boolean), .methodLink RX6 87 yX6_in, .static yX6_in, .code yX6_in cX6_in 3 (some .boolean), .methodLink RX6 98 yX6_meets, .instanceMethod yX6_meets, .selects RX6 yX6_meets yX6_meets, .code yX6_meets cX6_meets 2 (some .int), .fieldLink RX6 84 "TeaRaceModel" "finding" "I", .fieldLink RX6 7 "TeaRaceModel" "findings" "[I"] ++ wsX60)
def wsX6_chart : List Cond := .code yX6_chart cX6_chart 4 (some .int) :: ([.fieldLink RX6 17 "TeaRaceModel" "isChart" "[Z", .fieldLink RX6 20 "TeaRaceModel" "winds" "[I", .methodLink RX6 95 yX6_isMonth, .static yX6_isMonth, .initialized RX6, .code yX6_isMonth cX6_isMonth 1 (some .boolean), .methodLink RX6 87 yX6_in, .static yX6_in, .code yX6_in cX6_in 3 (some .boolean)] ++ wsX60)
def wsX6_wind : List Cond := .code yX6_wind cX6_wind 6 (some .int) :: ([.fieldLink RX6 20 "TeaRaceModel" "winds" "[I", .methodLink RX6 102 yX6_looked, .instanceMethod yX6_looked, .selects RX6 yX6_looked yX6_looked, .initialized RX6, .code yX6_looked cX6_looked 2 (some .int), .fieldLink RX6 17 "TeaRaceModel" "isChart" "[Z", .methodLink RX6 95 yX6_isMonth, .static yX6_isMonth, .code yX6_isMonth cX6_isMonth 1 (some .boolean), .methodLink RX6 87 yX6_in, .static yX6_in, .code yX6_in cX6_in 3 (some .boolean), .methodLink RX6 98 yX6_meets, .instanceMethod yX6_meets, .selects RX6 yX6_meets yX6_meets, .code yX6_meets cX6_meets 2 (some .int), .fieldLink RX6 84 "TeaRaceModel" "finding" "I", .fieldLink RX6 7 "TeaRaceModel" "findings" "[I", .methodLink RX6 91 yX6_isCell, .static yX6_isCell, .code yX6_isCell cX6_isCell 1 (some .boolean)] ++ wsX60)
def wsX6_tear : List Cond := .code yX6_tear cX6_tear 3 (some .int) :: ([.fieldLink RX6 17 "TeaRaceModel" "isChart" "[Z", .methodLink RX6 102 yX6_looked, .instanceMethod yX6_looked, .selects RX6 yX6_looked yX6_looked, .initialized RX6, .code yX6_looked cX6_looked 2 (some .int), .methodLink RX6 95 yX6_isMonth, .static yX6_isMonth, .code yX6_isMonth cX6_isMonth 1 (some .boolean), .methodLink RX6 87 yX6_in, .static yX6_in, .code yX6_in cX6_in 3 (some .boolean), .methodLink RX6 98 yX6_meets, .instanceMethod yX6_meets, .selects RX6 yX6_meets yX6_meets, .code yX6_meets cX6_meets 2 (some .int), .fieldLink RX6 84 "TeaRaceModel" "finding" "I", .fieldLink RX6 7 "TeaRaceModel" "findings" "[I"] ++ wsX60)
def wsX6_copy : List Cond := .code yX6_copy cX6_copy 7 (some .int) :: ([.fieldLink RX6 17 "TeaRaceModel" "isChart" "[Z", .constantLong RX6 105 (160), .fieldLink RX6 23 "TeaRaceModel" "moving" "[I", .fieldLink RX6 20 "TeaRaceModel" "winds" "[I", .methodLink RX6 95 yX6_isMonth, .static yX6_isMonth, .initialized RX6, .code yX6_isMonth cX6_isMonth 1 (some .boolean), .methodLink RX6 87 yX6_in, .static yX6_in, .code yX6_in cX6_in 3 (some .boolean), .methodLink RX6 98 yX6_meets, .instanceMethod yX6_meets, .selects RX6 yX6_meets yX6_meets, .code yX6_meets cX6_meets 2 (some .int), .fieldLink RX6 84 "TeaRaceModel" "finding" "I", .fieldLink RX6 7 "TeaRaceModel" "findings" "[I"] ++ wsX60)
def wsX6_strength : List Cond := .code yX6_strength cX6_strength 1 (some .int) :: ([.methodLink RX6 87 yX6_in, .static yX6_in, .initialized RX6, .code yX6_in cX6_in 3 (some .boolean)])
def wsX6_mean : List Cond := .code yX6_mean cX6_mean 5 (some .int) :: ([.fieldLink RX6 20 "TeaRaceModel" "winds" "[I", .methodLink RX6 102 yX6_looked, .instanceMethod yX6_looked, .selects RX6 yX6_looked yX6_looked, .initialized RX6, .code yX6_looked cX6_looked 2 (some .int), .fieldLink RX6 17 "TeaRaceModel" "isChart" "[Z", .methodLink RX6 95 yX6_isMonth, .static yX6_isMonth, .code yX6_isMonth cX6_isMonth 1 (some .boolean), .methodLink RX6 87 yX6_in, .static yX6_in, .code yX6_in cX6_in 3 (some .boolean), .methodLink RX6 98 yX6_meets, .instanceMethod yX6_meets, .selects RX6 yX6_meets yX6_meets, .code yX6_meets cX6_meets 2 (some .int), .fieldLink RX6 84 "TeaRaceModel" "finding" "I", .fieldLink RX6 7 "TeaRaceModel" "findings" "[I", .methodLink RX6 107 yX6_strength, .static yX6_strength, .code yX6_strength cX6_strength 1 (some .int)] ++ wsX60)
def wsX6_windAt : List Cond := .code yX6_windAt cX6_windAt 5 (some .int) :: ([.fieldLink RX6 17 "TeaRaceModel" "isChart" "[Z", .fieldLink RX6 20 "TeaRaceModel" "winds" "[I", .methodLink RX6 87 yX6_in, .static yX6_in, .initialized RX6, .code yX6_in cX6_in 3 (some .boolean)] ++ wsX60)
def wsX6_nextCell : List Cond := .code yX6_nextCell cX6_nextCell 5 (some .int) :: ([.fieldLink RX6 13 "TeaRaceModel" "isLand" "[Z", .methodLink RX6 87 yX6_in, .static yX6_in, .initialized RX6, .code yX6_in cX6_in 3 (some .boolean)] ++ wsX60)
def wsX6_need : List Cond := .code yX6_need cX6_need 1 (some .int) :: ([])
def wsX6_isShip : List Cond := .code yX6_isShip cX6_isShip 2 (some .boolean) :: ([.fieldLink RX6 110 "TeaRaceModel" "ships" "I", .methodLink RX6 87 yX6_in, .static yX6_in, .initialized RX6, .code yX6_in cX6_in 3 (some .boolean)] ++ wsX60)
def wsX6_ship : List Cond := .code yX6_ship cX6_ship 4 (some .int) :: ([.fieldLink RX6 13 "TeaRaceModel" "isLand" "[Z", .fieldLink RX6 110 "TeaRaceModel" "ships" "I", .fieldLink RX6 113 "TeaRaceModel" "hour" "I", .fieldLink RX6 26 "TeaRaceModel" "kinds" "[I", .fieldLink RX6 29 "TeaRaceModel" "cells" "[I", .fieldLink RX6 41 "TeaRaceModel" "chests" "[I", .fieldLink RX6 38 "TeaRaceModel" "homeAt" "[I", .methodLink RX6 87 yX6_in, .static yX6_in, .initialized RX6, .code yX6_in cX6_in 3 (some .boolean), .methodLink RX6 91 yX6_isCell, .static yX6_isCell, .code yX6_isCell cX6_isCell 1 (some .boolean)] ++ wsX60)
def wsX6_foul : List Cond := .code yX6_foul cX6_foul 4 (some .int) :: ([.fieldLink RX6 44 "TeaRaceModel" "foulness" "[I", .methodLink RX6 116 yX6_isShip, .instanceMethod yX6_isShip, .selects RX6 yX6_isShip yX6_isShip, .initialized RX6, .code yX6_isShip cX6_isShip 2 (some .boolean), .fieldLink RX6 110 "TeaRaceModel" "ships" "I", .methodLink RX6 87 yX6_in, .static yX6_in, .code yX6_in cX6_in 3 (some .boolean)] ++ wsX60)
def wsX6_entryOf : List Cond := .code yX6_entryOf cX6_entryOf 3 (some .int) :: ([.fieldLink RX6 38 "TeaRaceModel" "homeAt" "[I", .fieldLink RX6 119 "TeaRaceModel" "gate" "I"] ++ wsX60)
def wsX6_tells : List Cond := .code yX6_tells cX6_tells 3 (some .int) :: ([.fieldLink RX6 26 "TeaRaceModel" "kinds" "[I", .fieldLink RX6 29 "TeaRaceModel" "cells" "[I", .fieldLink RX6 32 "TeaRaceModel" "gone" "[I", .fieldLink RX6 35 "TeaRaceModel" "ways" "[I", .fieldLink RX6 38 "TeaRaceModel" "homeAt" "[I", .fieldLink RX6 41 "TeaRaceModel" "chests" "[I", .methodLink RX6 122 yX6_entryOf, .instanceMethod yX6_entryOf, .selects RX6 yX6_entryOf yX6_entryOf, .initialized RX6, .code yX6_entryOf cX6_entryOf 3 (some .int), .fieldLink RX6 119 "TeaRaceModel" "gate" "I"] ++ wsX60)
def wsX6_told : List Cond := .code yX6_told cX6_told 3 (some .int) :: ([.methodLink RX6 116 yX6_isShip, .instanceMethod yX6_isShip, .selects RX6 yX6_isShip yX6_isShip, .initialized RX6, .code yX6_isShip cX6_isShip 2 (some .boolean), .fieldLink RX6 110 "TeaRaceModel" "ships" "I", .methodLink RX6 87 yX6_in, .static yX6_in, .code yX6_in cX6_in 3 (some .boolean), .methodLink RX6 125 yX6_tells, .instanceMethod yX6_tells, .selects RX6 yX6_tells yX6_tells, .code yX6_tells cX6_tells 3 (some .int), .fieldLink RX6 26 "TeaRaceModel" "kinds" "[I", .fieldLink RX6 29 "TeaRaceModel" "cells" "[I", .fieldLink RX6 32 "TeaRaceModel" "gone" "[I", .fieldLink RX6 35 "TeaRaceModel" "ways" "[I", .fieldLink RX6 38 "TeaRaceModel" "homeAt" "[I", .fieldLink RX6 41 "TeaRaceModel" "chests" "[I", .methodLink RX6 122 yX6_entryOf, .instanceMethod yX6_entryOf, .selects RX6 yX6_entryOf yX6_entryOf, .code yX6_entryOf cX6_entryOf 3 (some .int), .fieldLink RX6 119 "TeaRaceModel" "gate" "I"] ++ wsX60)
def wsX6_speedOf : List Cond := .code yX6_speedOf cX6_speedOf 8 (some .int) :: ([.fieldLink RX6 26 "TeaRaceModel" "kinds" "[I", .fieldLink RX6 44 "TeaRaceModel" "foulness" "[I"] ++ wsX60)
def wsX6_mark : List Cond := .code yX6_mark cX6_mark 4 (some .int) :: ([.fieldLink RX6 26 "TeaRaceModel" "kinds" "[I", .fieldLink RX6 50 "TeaRaceModel" "orders" "[I", .fieldLink RX6 47 "TeaRaceModel" "came" "[I", .methodLink RX6 116 yX6_isShip, .instanceMethod yX6_isShip, .selects RX6 yX6_isShip yX6_isShip, .initialized RX6, .code yX6_isShip cX6_isShip 2 (some .boolean), .fieldLink RX6 110 "TeaRaceModel" "ships" "I", .methodLink RX6 87 yX6_in, .static yX6_in, .code yX6_in cX6_in 3 (some .boolean), .methodLink RX6 98 yX6_meets, .instanceMethod yX6_meets, .selects RX6 yX6_meets yX6_meets, .code yX6_meets cX6_meets 2 (some .int), .fieldLink RX6 84 "TeaRaceModel" "finding" "I", .fieldLink RX6 7 "TeaRaceModel" "findings" "[I", .methodLink RX6 129 yX6_speedOf, .instanceMethod yX6_speedOf, .selects RX6 yX6_speedOf yX6_speedOf, .code yX6_speedOf cX6_speedOf 8 (some .int), .fieldLink RX6 44 "TeaRaceModel" "foulness" "[I"] ++ wsX60)
def wsX6_isWay : List Cond := .code yX6_isWay cX6_isWay 1 (some .boolean) :: ([.methodLink RX6 87 yX6_in, .static yX6_in, .initialized RX6, .code yX6_in cX6_in 3 (some .boolean)])
def wsX6_speed : List Cond := .code yX6_speed cX6_speed 5 (some .int) :: ([.methodLink RX6 116 yX6_isShip, .instanceMethod yX6_isShip, .selects RX6 yX6_isShip yX6_isShip, .initialized RX6, .code yX6_isShip cX6_isShip 2 (some .boolean), .fieldLink RX6 110 "TeaRaceModel" "ships" "I", .methodLink RX6 87 yX6_in, .static yX6_in, .code yX6_in cX6_in 3 (some .boolean), .methodLink RX6 133 yX6_isWay, .static yX6_isWay, .code yX6_isWay cX6_isWay 1 (some .boolean), .methodLink RX6 129 yX6_speedOf, .instanceMethod yX6_speedOf, .selects RX6 yX6_speedOf yX6_speedOf, .code yX6_speedOf cX6_speedOf 8 (some .int), .fieldLink RX6 26 "TeaRaceModel" "kinds" "[I", .fieldLink RX6 44 "TeaRaceModel" "foulness" "[I"] ++ wsX60)
def wsX6_order : List Cond := .code yX6_order cX6_order 9 (some .int) :: ([.fieldLink RX6 50 "TeaRaceModel" "orders" "[I", .fieldLink RX6 53 "TeaRaceModel" "orderRows" "[I", .methodLink RX6 116 yX6_isShip, .instanceMethod yX6_isShip, .selects RX6 yX6_isShip yX6_isShip, .initialized RX6, .code yX6_isShip cX6_isShip 2 (some .boolean), .fieldLink RX6 110 "TeaRaceModel" "ships" "I", .methodLink RX6 87 yX6_in, .static yX6_in, .code yX6_in cX6_in 3 (some .boolean), .methodLink RX6 133 yX6_isWay, .static yX6_isWay, .code yX6_isWay cX6_isWay 1 (some .boolean)] ++ wsX60)
def wsX6_home : List Cond := .code yX6_home cX6_home 3 (some .int) :: ([.fieldLink RX6 13 "TeaRaceModel" "isLand" "[Z", .fieldLink RX6 113 "TeaRaceModel" "hour" "I", .fieldLink RX6 136 "TeaRaceModel" "home" "I", .fieldLink RX6 119 "TeaRaceModel" "gate" "I", .methodLink RX6 91 yX6_isCell, .static yX6_isCell, .initialized RX6, .code yX6_isCell cX6_isCell 1 (some .boolean), .methodLink RX6 87 yX6_in, .static yX6_in, .code yX6_in cX6_in 3 (some .boolean)] ++ wsX60)
def wsX6_ask : List Cond := .code yX6_ask cX6_ask 5 none :: ([.fieldLink RX6 29 "TeaRaceModel" "cells" "[I", .fieldLink RX6 113 "TeaRaceModel" "hour" "I", .fieldLink RX6 50 "TeaRaceModel" "orders" "[I", .fieldLink RX6 53 "TeaRaceModel" "orderRows" "[I", .fieldLink RX6 35 "TeaRaceModel" "ways" "[I", .methodLink RX6 139 yX6_windAt, .instanceMethod yX6_windAt, .selects RX6 yX6_windAt yX6_windAt, .initialized RX6, .code yX6_windAt cX6_windAt 5 (some .int), .fieldLink RX6 17 "TeaRaceModel" "isChart" "[Z", .fieldLink RX6 20 "TeaRaceModel" "winds" "[I", .methodLink RX6 87 yX6_in, .static yX6_in, .code yX6_in cX6_in 3 (some .boolean)] ++ wsX60)
def wsX6_go_r1 : List Cond := [Cond.fieldLink RX6 29 "TeaRaceModel" "cells" "[I", Cond.fieldLink RX6 113 "TeaRaceModel" "hour" "I", Cond.fieldLink RX6 32 "TeaRaceModel" "gone" "[I", Cond.fieldLink RX6 35 "TeaRaceModel" "ways" "[I", Cond.fieldLink RX6 38 "TeaRaceModel" "homeAt" "[I", Cond.fieldLink RX6 47 "TeaRaceModel" "came" "[I", Cond.fieldLink RX6 136 "TeaRaceModel" "home" "I", Cond.methodLink RX6 142 yX6_ask, Cond.instanceMethod yX6_ask, Cond.selects RX6 yX6_ask yX6_ask, Cond.initialized RX6, Cond.code yX6_ask cX6_ask 5 none, Cond.fieldLink RX6 50 "TeaRaceModel" "orders" "[I", Cond.fieldLink RX6 53 "TeaRaceModel" "orderRows" "[I", Cond.methodLink RX6 139 yX6_windAt, Cond.instanceMethod yX6_windAt, Cond.selects RX6 yX6_windAt yX6_windAt, Cond.code yX6_windAt cX6_windAt 5 (some .int), Cond.fieldLink RX6 17 "TeaRaceModel" "isChart" "[Z", Cond.fieldLink RX6 20 "TeaRaceModel" "winds" "[I", Cond.methodLink RX6 87 yX6_in, Cond.static yX6_in, Cond.code yX6_in cX6_in 3 (some .boolean), Cond.methodLink RX6 129 yX6_speedOf]
def wsX6_go_r2 : List Cond := [Cond.instanceMethod yX6_speedOf, Cond.selects RX6 yX6_speedOf yX6_speedOf, Cond.code yX6_speedOf cX6_speedOf 8 (some .int), Cond.fieldLink RX6 26 "TeaRaceModel" "kinds" "[I", Cond.fieldLink RX6 44 "TeaRaceModel" "foulness" "[I", Cond.methodLink RX6 146 yX6_need, Cond.static yX6_need, Cond.code yX6_need cX6_need 1 (some .int), Cond.methodLink RX6 149 yX6_nextCell, Cond.instanceMethod yX6_nextCell, Cond.selects RX6 yX6_nextCell yX6_nextCell, Cond.code yX6_nextCell cX6_nextCell 5 (some .int), Cond.fieldLink RX6 13 "TeaRaceModel" "isLand" "[Z"]
def wsX6_go : List Cond := .code yX6_go cX6_go 4 none :: ((wsX6_go_r1 ++ wsX6_go_r2) ++ wsX60)
def wsX6_atHome : List Cond := .code yX6_atHome cX6_atHome 3 (some .int) :: ([.fieldLink RX6 110 "TeaRaceModel" "ships" "I", .fieldLink RX6 38 "TeaRaceModel" "homeAt" "[I"] ++ wsX60)
def wsX6_run_r1 : List Cond := [Cond.fieldLink RX6 113 "TeaRaceModel" "hour" "I", Cond.constant RX6 152 (100000), Cond.fieldLink RX6 110 "TeaRaceModel" "ships" "I", Cond.fieldLink RX6 38 "TeaRaceModel" "homeAt" "[I", Cond.methodLink RX6 87 yX6_in, Cond.static yX6_in, Cond.initialized RX6, Cond.code yX6_in cX6_in 3 (some .boolean), Cond.methodLink RX6 153 yX6_atHome, Cond.instanceMethod yX6_atHome, Cond.selects RX6 yX6_atHome yX6_atHome, Cond.code yX6_atHome cX6_atHome 3 (some .int), Cond.methodLink RX6 157 yX6_go, Cond.instanceMethod yX6_go, Cond.selects RX6 yX6_go yX6_go, Cond.code yX6_go cX6_go 4 none, Cond.fieldLink RX6 29 "TeaRaceModel" "cells" "[I", Cond.fieldLink RX6 32 "TeaRaceModel" "gone" "[I", Cond.fieldLink RX6 35 "TeaRaceModel" "ways" "[I", Cond.fieldLink RX6 47 "TeaRaceModel" "came" "[I", Cond.fieldLink RX6 136 "TeaRaceModel" "home" "I", Cond.methodLink RX6 142 yX6_ask, Cond.instanceMethod yX6_ask, Cond.selects RX6 yX6_ask yX6_ask]
def wsX6_run_r2 : List Cond := [Cond.code yX6_ask cX6_ask 5 none, Cond.fieldLink RX6 50 "TeaRaceModel" "orders" "[I", Cond.fieldLink RX6 53 "TeaRaceModel" "orderRows" "[I", Cond.methodLink RX6 139 yX6_windAt, Cond.instanceMethod yX6_windAt, Cond.selects RX6 yX6_windAt yX6_windAt, Cond.code yX6_windAt cX6_windAt 5 (some .int), Cond.fieldLink RX6 17 "TeaRaceModel" "isChart" "[Z", Cond.fieldLink RX6 20 "TeaRaceModel" "winds" "[I", Cond.methodLink RX6 129 yX6_speedOf, Cond.instanceMethod yX6_speedOf, Cond.selects RX6 yX6_speedOf yX6_speedOf, Cond.code yX6_speedOf cX6_speedOf 8 (some .int), Cond.fieldLink RX6 26 "TeaRaceModel" "kinds" "[I", Cond.fieldLink RX6 44 "TeaRaceModel" "foulness" "[I", Cond.methodLink RX6 146 yX6_need, Cond.static yX6_need, Cond.code yX6_need cX6_need 1 (some .int), Cond.methodLink RX6 149 yX6_nextCell, Cond.instanceMethod yX6_nextCell, Cond.selects RX6 yX6_nextCell yX6_nextCell, Cond.code yX6_nextCell cX6_nextCell 5 (some .int), Cond.fieldLink RX6 13 "TeaRaceModel" "isLand" "[Z"]
def wsX6_run : List Cond := .code yX6_run cX6_run 5 (some .int) :: ((wsX6_run_r1 ++ wsX6_run_r2) ++ wsX60)
def wsX6_firstShip : List Cond := .code yX6_firstShip cX6_firstShip 4 (some .int) :: ([.fieldLink RX6 110 "TeaRaceModel" "ships" "I", .fieldLink RX6 38 "TeaRaceModel" "homeAt" "[I", .methodLink RX6 122 yX6_entryOf, .instanceMethod yX6_entryOf, .selects RX6 yX6_entryOf yX6_entryOf, .initialized RX6, .code yX6_entryOf cX6_entryOf 3 (some .int), .fieldLink RX6 119 "TeaRaceModel" "gate" "I"] ++ wsX60)
def wsX6_first : List Cond := .code yX6_first cX6_first 1 (some .int) :: ([.methodLink RX6 160 yX6_firstShip, .instanceMethod yX6_firstShip, .selects RX6 yX6_firstShip yX6_firstShip, .initialized RX6, .code yX6_firstShip cX6_firstShip 4 (some .int), .fieldLink RX6 110 "TeaRaceModel" "ships" "I", .fieldLink RX6 38 "TeaRaceModel" "homeAt" "[I", .methodLink RX6 122 yX6_entryOf, .instanceMethod yX6_entryOf, .selects RX6 yX6_entryOf yX6_entryOf, .code yX6_entryOf cX6_entryOf 3 (some .int), .fieldLink RX6 119 "TeaRaceModel" "gate" "I"] ++ wsX60)
def wsX6_crossing : List Cond := .code yX6_crossing cX6_crossing 9 (some .int) :: ([.methodLink RX6 146 yX6_need, .static yX6_need, .initialized RX6, .code yX6_need cX6_need 1 (some .int), .methodLink RX6 139 yX6_windAt, .instanceMethod yX6_windAt, .selects RX6 yX6_windAt yX6_windAt, .code yX6_windAt cX6_windAt 5 (some .int), .fieldLink RX6 17 "TeaRaceModel" "isChart" "[Z", .fieldLink RX6 20 "TeaRaceModel" "winds" "[I", .methodLink RX6 87 yX6_in, .static yX6_in, .code yX6_in cX6_in 3 (some .boolean), .methodLink RX6 129 yX6_speedOf, .instanceMethod yX6_speedOf, .selects RX6 yX6_speedOf yX6_speedOf, .code yX6_speedOf cX6_speedOf 8 (some .int), .fieldLink RX6 26 "TeaRaceModel" "kinds" "[I", .fieldLink RX6 44 "TeaRaceModel" "foulness" "[I"] ++ wsX60)
def wsX6_least_r1 : List Cond := [Cond.fieldLink RX6 13 "TeaRaceModel" "isLand" "[Z", Cond.constant RX6 163 (98000), Cond.fieldLink RX6 62 "TeaRaceModel" "hours" "[I", Cond.fieldLink RX6 65 "TeaRaceModel" "isSettled" "[Z", Cond.methodLink RX6 116 yX6_isShip, Cond.instanceMethod yX6_isShip, Cond.selects RX6 yX6_isShip yX6_isShip, Cond.initialized RX6, Cond.code yX6_isShip cX6_isShip 2 (some .boolean), Cond.fieldLink RX6 110 "TeaRaceModel" "ships" "I", Cond.methodLink RX6 87 yX6_in, Cond.static yX6_in, Cond.code yX6_in cX6_in 3 (some .boolean), Cond.methodLink RX6 91 yX6_isCell, Cond.static yX6_isCell, Cond.code yX6_isCell cX6_isCell 1 (some .boolean), Cond.methodLink RX6 149 yX6_nextCell, Cond.instanceMethod yX6_nextCell, Cond.selects RX6 yX6_nextCell yX6_nextCell, Cond.code yX6_nextCell cX6_nextCell 5 (some .int), Cond.methodLink RX6 164 yX6_crossing, Cond.instanceMethod yX6_crossing, Cond.selects RX6 yX6_crossing yX6_crossing, Cond.code yX6_crossing cX6_crossing 9 (some .int)]
def wsX6_least_r2 : List Cond := [Cond.methodLink RX6 146 yX6_need, Cond.static yX6_need, Cond.code yX6_need cX6_need 1 (some .int), Cond.methodLink RX6 139 yX6_windAt, Cond.instanceMethod yX6_windAt, Cond.selects RX6 yX6_windAt yX6_windAt, Cond.code yX6_windAt cX6_windAt 5 (some .int), Cond.fieldLink RX6 17 "TeaRaceModel" "isChart" "[Z", Cond.fieldLink RX6 20 "TeaRaceModel" "winds" "[I", Cond.methodLink RX6 129 yX6_speedOf, Cond.instanceMethod yX6_speedOf, Cond.selects RX6 yX6_speedOf yX6_speedOf, Cond.code yX6_speedOf cX6_speedOf 8 (some .int), Cond.fieldLink RX6 26 "TeaRaceModel" "kinds" "[I", Cond.fieldLink RX6 44 "TeaRaceModel" "foulness" "[I"]
def wsX6_least : List Cond := .code yX6_least cX6_least 9 (some .int) :: ((wsX6_least_r1 ++ wsX6_least_r2) ++ wsX60)
def wsX6_sight : List Cond := .code yX6_sight cX6_sight 6 (some .int) :: ([.constant RX6 152 (100000), .fieldLink RX6 168 "TeaRaceModel" "sights" "I", .fieldLink RX6 68 "TeaRaceModel" "sightShip" "[I", .fieldLink RX6 74 "TeaRaceModel" "sightHour" "[I", .fieldLink RX6 71 "TeaRaceModel" "sightCell" "[I", .methodLink RX6 116 yX6_isShip, .instanceMethod yX6_isShip, .selects RX6 yX6_isShip yX6_isShip, .initialized RX6, .code yX6_isShip cX6_isShip 2 (some .boolean), .fieldLink RX6 110 "TeaRaceModel" "ships" "I", .methodLink RX6 87 yX6_in, .static yX6_in, .code yX6_in cX6_in 3 (some .boolean), .methodLink RX6 91 yX6_isCell, .static yX6_isCell, .code yX6_isCell cX6_isCell 1 (some .boolean)] ++ wsX60)
def wsX6_apart : List Cond := .code yX6_apart cX6_apart 2 (some .int) :: ([])
def wsX6_farOf : List Cond := .code yX6_farOf cX6_farOf 4 (some .int) :: ([.fieldLink RX6 136 "TeaRaceModel" "home" "I", .methodLink RX6 171 yX6_apart, .static yX6_apart, .initialized RX6, .code yX6_apart cX6_apart 2 (some .int)] ++ wsX60)
def wsX6_distanceOf : List Cond := .code yX6_distanceOf cX6_distanceOf 11 (some .int) :: ([.fieldLink RX6 168 "TeaRaceModel" "sights" "I", .fieldLink RX6 68 "TeaRaceModel" "sightShip" "[I", .fieldLink RX6 74 "TeaRaceModel" "sightHour" "[I", .fieldLink RX6 71 "TeaRaceModel" "sightCell" "[I", .methodLink RX6 174 yX6_farOf, .instanceMethod yX6_farOf, .selects RX6 yX6_farOf yX6_farOf, .initialized RX6, .code yX6_farOf cX6_farOf 4 (some .int), .fieldLink RX6 136 "TeaRaceModel" "home" "I", .methodLink RX6 171 yX6_apart, .static yX6_apart, .code yX6_apart cX6_apart 2 (some .int)] ++ wsX60)
def wsX6_distance_r1 : List Cond := [Cond.constant RX6 152 (100000), Cond.methodLink RX6 116 yX6_isShip, Cond.instanceMethod yX6_isShip, Cond.selects RX6 yX6_isShip yX6_isShip, Cond.initialized RX6, Cond.code yX6_isShip cX6_isShip 2 (some .boolean), Cond.fieldLink RX6 110 "TeaRaceModel" "ships" "I", Cond.methodLink RX6 87 yX6_in, Cond.static yX6_in, Cond.code yX6_in cX6_in 3 (some .boolean), Cond.methodLink RX6 177 yX6_distanceOf, Cond.instanceMethod yX6_distanceOf, Cond.selects RX6 yX6_distanceOf yX6_distanceOf, Cond.code yX6_distanceOf cX6_distanceOf 11 (some .int), Cond.fieldLink RX6 168 "TeaRaceModel" "sights" "I", Cond.fieldLink RX6 68 "TeaRaceModel" "sightShip" "[I", Cond.fieldLink RX6 74 "TeaRaceModel" "sightHour" "[I", Cond.fieldLink RX6 71 "TeaRaceModel" "sightCell" "[I", Cond.methodLink RX6 174 yX6_farOf, Cond.instanceMethod yX6_farOf, Cond.selects RX6 yX6_farOf yX6_farOf, Cond.code yX6_farOf cX6_farOf 4 (some .int), Cond.fieldLink RX6 136 "TeaRaceModel" "home" "I", Cond.methodLink RX6 171 yX6_apart]
def wsX6_distance_r2 : List Cond := [Cond.static yX6_apart, Cond.code yX6_apart cX6_apart 2 (some .int)]
def wsX6_distance : List Cond := .code yX6_distance cX6_distance 4 (some .int) :: ((wsX6_distance_r1 ++ wsX6_distance_r2) ++ wsX60)
def wsX6_ahead_r1 : List Cond := [Cond.constant RX6 152 (100000), Cond.methodLink RX6 116 yX6_isShip, Cond.instanceMethod yX6_isShip, Cond.selects RX6 yX6_isShip yX6_isShip, Cond.initialized RX6, Cond.code yX6_isShip cX6_isShip 2 (some .boolean), Cond.fieldLink RX6 110 "TeaRaceModel" "ships" "I", Cond.methodLink RX6 87 yX6_in, Cond.static yX6_in, Cond.code yX6_in cX6_in 3 (some .boolean), Cond.methodLink RX6 177 yX6_distanceOf, Cond.instanceMethod yX6_distanceOf, Cond.selects RX6 yX6_distanceOf yX6_distanceOf, Cond.code yX6_distanceOf cX6_distanceOf 11 (some .int), Cond.fieldLink RX6 168 "TeaRaceModel" "sights" "I", Cond.fieldLink RX6 68 "TeaRaceModel" "sightShip" "[I", Cond.fieldLink RX6 74 "TeaRaceModel" "sightHour" "[I", Cond.fieldLink RX6 71 "TeaRaceModel" "sightCell" "[I", Cond.methodLink RX6 174 yX6_farOf, Cond.instanceMethod yX6_farOf, Cond.selects RX6 yX6_farOf yX6_farOf, Cond.code yX6_farOf cX6_farOf 4 (some .int), Cond.fieldLink RX6 136 "TeaRaceModel" "home" "I", Cond.methodLink RX6 171 yX6_apart]
def wsX6_ahead_r2 : List Cond := [Cond.static yX6_apart, Cond.code yX6_apart cX6_apart 2 (some .int)]
def wsX6_ahead : List Cond := .code yX6_ahead cX6_ahead 6 (some .int) :: ((wsX6_ahead_r1 ++ wsX6_ahead_r2) ++ wsX60)
def wsX6_charter : List Cond := .code yX6_charter cX6_charter 4 (some .int) :: ([.constant RX6 152 (100000), .fieldLink RX6 56 "TeaRaceModel" "rates" "[I", .fieldLink RX6 59 "TeaRaceModel" "premiums" "[I", .methodLink RX6 116 yX6_isShip, .instanceMethod yX6_isShip, .selects RX6 yX6_isShip yX6_isShip, .initialized RX6, .code yX6_isShip cX6_isShip 2 (some .boolean), .fieldLink RX6 110 "TeaRaceModel" "ships" "I", .methodLink RX6 87 yX6_in, .static yX6_in, .code yX6_in cX6_in 3 (some .boolean)] ++ wsX60)
def wsX6_freight : List Cond := .code yX6_freight cX6_freight 2 (some .int) :: ([.fieldLink RX6 38 "TeaRaceModel" "homeAt" "[I", .fieldLink RX6 41 "TeaRaceModel" "chests" "[I", .fieldLink RX6 56 "TeaRaceModel" "rates" "[I", .fieldLink RX6 59 "TeaRaceModel" "premiums" "[I", .methodLink RX6 116 yX6_isShip, .instanceMethod yX6_isShip, .selects RX6 yX6_isShip yX6_isShip, .initialized RX6, .code yX6_isShip cX6_isShip 2 (some .boolean), .fieldLink RX6 110 "TeaRaceModel" "ships" "I", .methodLink RX6 87 yX6_in, .static yX6_in, .code yX6_in cX6_in 3 (some .boolean), .methodLink RX6 160 yX6_firstShip, .instanceMethod yX6_firstShip, .selects RX6 yX6_firstShip yX6_firstShip, .code yX6_firstShip cX6_firstShip 4 (some .int), .methodLink RX6 122 yX6_entryOf, .instanceMethod yX6_entryOf, .selects RX6 yX6_entryOf yX6_entryOf, .code yX6_entryOf cX6_entryOf 3 (some .int), .fieldLink RX6 119 "TeaRaceModel" "gate" "I"] ++ wsX60)
def wsX6_market : List Cond := .code yX6_market cX6_market 3 (some .int) :: ([.fieldLink RX6 77 "TeaRaceModel" "price" "I", .fieldLink RX6 81 "TeaRaceModel" "fall" "I", .methodLink RX6 87 yX6_in, .static yX6_in, .initialized RX6, .code yX6_in cX6_in 3 (some .boolean)] ++ wsX60)
def wsX6_priceFor : List Cond := .code yX6_priceFor cX6_priceFor 5 (some .int) :: ([.fieldLink RX6 110 "TeaRaceModel" "ships" "I", .fieldLink RX6 38 "TeaRaceModel" "homeAt" "[I", .fieldLink RX6 41 "TeaRaceModel" "chests" "[I", .fieldLink RX6 77 "TeaRaceModel" "price" "I", .fieldLink RX6 81 "TeaRaceModel" "fall" "I", .methodLink RX6 122 yX6_entryOf, .instanceMethod yX6_entryOf, .selects RX6 yX6_entryOf yX6_entryOf, .initialized RX6, .code yX6_entryOf cX6_entryOf 3 (some .int), .fieldLink RX6 119 "TeaRaceModel" "gate" "I"] ++ wsX60)
def wsX6_sale : List Cond := .code yX6_sale cX6_sale 3 (some .int) :: ([.fieldLink RX6 38 "TeaRaceModel" "homeAt" "[I", .fieldLink RX6 41 "TeaRaceModel" "chests" "[I", .fieldLink RX6 184 "TeaRaceModel" "asked" "J", .methodLink RX6 116 yX6_isShip, .instanceMethod yX6_isShip, .selects RX6 yX6_isShip yX6_isShip, .initialized RX6, .code yX6_isShip cX6_isShip 2 (some .boolean), .fieldLink RX6 110 "TeaRaceModel" "ships" "I", .methodLink RX6 87 yX6_in, .static yX6_in, .code yX6_in cX6_in 3 (some .boolean), .methodLink RX6 181 yX6_priceFor, .instanceMethod yX6_priceFor, .selects RX6 yX6_priceFor yX6_priceFor, .code yX6_priceFor cX6_priceFor 5 (some .int), .fieldLink RX6 77 "TeaRaceModel" "price" "I", .fieldLink RX6 81 "TeaRaceModel" "fall" "I", .methodLink RX6 122 yX6_entryOf, .instanceMethod yX6_entryOf, .selects RX6 yX6_entryOf yX6_entryOf, .code yX6_entryOf cX6_entryOf 3 (some .int), .fieldLink RX6 119 "TeaRaceModel" "gate" "I"] ++ wsX60)
def wsX6_meanPrice : List Cond := .code yX6_meanPrice cX6_meanPrice 6 (some .int) :: ([.fieldLink RX6 110 "TeaRaceModel" "ships" "I", .fieldLink RX6 38 "TeaRaceModel" "homeAt" "[I", .fieldLink RX6 41 "TeaRaceModel" "chests" "[I", .methodLink RX6 181 yX6_priceFor, .instanceMethod yX6_priceFor, .selects RX6 yX6_priceFor yX6_priceFor, .initialized RX6, .code yX6_priceFor cX6_priceFor 5 (some .int), .fieldLink RX6 77 "TeaRaceModel" "price" "I", .fieldLink RX6 81 "TeaRaceModel" "fall" "I", .methodLink RX6 122 yX6_entryOf, .instanceMethod yX6_entryOf, .selects RX6 yX6_entryOf yX6_entryOf, .code yX6_entryOf cX6_entryOf 3 (some .int), .fieldLink RX6 119 "TeaRaceModel" "gate" "I", .methodLink RX6 98 yX6_meets, .instanceMethod yX6_meets, .selects RX6 yX6_meets yX6_meets, .code yX6_meets cX6_meets 2 (some .int), .fieldLink RX6 84 "TeaRaceModel" "finding" "I", .fieldLink RX6 7 "TeaRaceModel" "findings" "[I"] ++ wsX60)
def wsX6_asked : List Cond := .code yX6_asked cX6_asked 1 (some .long) :: ([.fieldLink RX6 184 "TeaRaceModel" "asked" "J"] ++ wsX60)
def wsX6_tellsCount : List Cond := .code yX6_tellsCount cX6_tellsCount 4 (some .int) :: ([.fieldLink RX6 17 "TeaRaceModel" "isChart" "[Z", .fieldLink RX6 110 "TeaRaceModel" "ships" "I", .fieldLink RX6 113 "TeaRaceModel" "hour" "I", .fieldLink RX6 168 "TeaRaceModel" "sights" "I", .methodLink RX6 153 yX6_atHome, .instanceMethod yX6_atHome, .selects RX6 yX6_atHome yX6_atHome, .initialized RX6, .code yX6_atHome cX6_atHome 3 (some .int), .fieldLink RX6 38 "TeaRaceModel" "homeAt" "[I"] ++ wsX60)
def wsX6_count : List Cond := .code yX6_count cX6_count 2 (some .int) :: ([.methodLink RX6 87 yX6_in, .static yX6_in, .initialized RX6, .code yX6_in cX6_in 3 (some .boolean), .methodLink RX6 188 yX6_tellsCount, .instanceMethod yX6_tellsCount, .selects RX6 yX6_tellsCount yX6_tellsCount, .code yX6_tellsCount cX6_tellsCount 4 (some .int), .fieldLink RX6 17 "TeaRaceModel" "isChart" "[Z", .fieldLink RX6 110 "TeaRaceModel" "ships" "I", .fieldLink RX6 113 "TeaRaceModel" "hour" "I", .fieldLink RX6 168 "TeaRaceModel" "sights" "I", .methodLink RX6 153 yX6_atHome, .instanceMethod yX6_atHome, .selects RX6 yX6_atHome yX6_atHome, .code yX6_atHome cX6_atHome 3 (some .int), .fieldLink RX6 38 "TeaRaceModel" "homeAt" "[I"] ++ wsX60)
def wsX6_finding : List Cond := .code yX6_finding cX6_finding 1 (some .int) :: ([.fieldLink RX6 84 "TeaRaceModel" "finding" "I"] ++ wsX60)
def wsX6_findings : List Cond := .code yX6_findings cX6_findings 2 (some .int) :: ([.fieldLink RX6 7 "TeaRaceModel" "findings" "[I", .methodLink RX6 87 yX6_in, .static yX6_in, .initialized RX6, .code yX6_in cX6_in 3 (some .boolean)] ++ wsX60)
def wsX6_digest_r1 : List Cond := [Cond.constantLong RX6 191 (17), Cond.constantLong RX6 193 (31), Cond.fieldLink RX6 110 "TeaRaceModel" "ships" "I", Cond.fieldLink RX6 17 "TeaRaceModel" "isChart" "[Z", Cond.fieldLink RX6 20 "TeaRaceModel" "winds" "[I", Cond.methodLink RX6 188 yX6_tellsCount, Cond.instanceMethod yX6_tellsCount, Cond.selects RX6 yX6_tellsCount yX6_tellsCount, Cond.initialized RX6, Cond.code yX6_tellsCount cX6_tellsCount 4 (some .int), Cond.fieldLink RX6 113 "TeaRaceModel" "hour" "I", Cond.fieldLink RX6 168 "TeaRaceModel" "sights" "I", Cond.methodLink RX6 153 yX6_atHome, Cond.instanceMethod yX6_atHome, Cond.selects RX6 yX6_atHome yX6_atHome, Cond.code yX6_atHome cX6_atHome 3 (some .int), Cond.fieldLink RX6 38 "TeaRaceModel" "homeAt" "[I", Cond.methodLink RX6 125 yX6_tells, Cond.instanceMethod yX6_tells, Cond.selects RX6 yX6_tells yX6_tells, Cond.code yX6_tells cX6_tells 3 (some .int), Cond.fieldLink RX6 26 "TeaRaceModel" "kinds" "[I", Cond.fieldLink RX6 29 "TeaRaceModel" "cells" "[I", Cond.fieldLink RX6 32 "TeaRaceModel" "gone" "[I"]
def wsX6_digest_r2 : List Cond := [Cond.fieldLink RX6 35 "TeaRaceModel" "ways" "[I", Cond.fieldLink RX6 41 "TeaRaceModel" "chests" "[I", Cond.methodLink RX6 122 yX6_entryOf, Cond.instanceMethod yX6_entryOf, Cond.selects RX6 yX6_entryOf yX6_entryOf, Cond.code yX6_entryOf cX6_entryOf 3 (some .int), Cond.fieldLink RX6 119 "TeaRaceModel" "gate" "I"]
def wsX6_digest : List Cond := .code yX6_digest cX6_digest 5 (some .long) :: ((wsX6_digest_r1 ++ wsX6_digest_r2) ++ wsX60)
def wsJ9_abs_0f7a4 : List Cond := .code yJ9_abs_0f7a4 cJ9_abs_0f7a4 1 (some .int) :: ([])
def wsJ9_max_7cf53 : List Cond := .code yJ9_max_7cf53 cJ9_max_7cf53 2 (some .int) :: ([])
def wsJ9_min_7cf53 : List Cond := .code yJ9_min_7cf53 cJ9_min_7cf53 2 (some .int) :: ([])
def wsL_law_r1 : List Cond := [Cond.classLink RL 7 RX5, Cond.instantiable RX5 12, Cond.initialized RX5, Cond.classLink RL 10 RX6, Cond.instantiable RX6 31, Cond.initialized RX6, Cond.methodLink RL 9 yX5_init, Cond.instanceMethod yX5_init, Cond.code yX5_init cX5_init 1 none, Cond.methodLink RX5 1 objectInit, Cond.instanceMethod objectInit, Cond.code objectInit ⟨#[0xb1]⟩ 1 none, Cond.classLink RX5 7 RX2, Cond.instantiable RX2 3, Cond.initialized RX2, Cond.fieldLink RX5 10 "TeaRace" "sea" "LTeaRace$Sea;", Cond.classLink RX5 16 RX1, Cond.instantiable RX1 2, Cond.initialized RX1, Cond.fieldLink RX5 19 "TeaRace" "passage" "LTeaRace$Passage;", Cond.classLink RX5 23 RJx4a65c, Cond.instantiable RJx4a65c 3, Cond.initialized RJx4a65c, Cond.fieldLink RX5 26 "TeaRace" "fleet" "Ljava/util/List;"]
def wsL_law_r2 : List Cond := [Cond.arrayClass .int, Cond.fieldLink RX5 30 "TeaRace" "findingCounts" "[I", Cond.fieldLink RX5 34 "TeaRace" "latestFinding" "I", Cond.fieldLink RX5 38 "TeaRace" "hour" "I", Cond.fieldLink RX5 41 "TeaRace" "homeCell" "I", Cond.fieldLink RX5 44 "TeaRace" "gateHour" "I", Cond.fieldLink RX5 47 "TeaRace" "sightCount" "I", Cond.fieldLink RX5 50 "TeaRace" "priceAtFirst" "I", Cond.fieldLink RX5 53 "TeaRace" "fallOfPrice" "I", Cond.fieldLink RX5 56 "TeaRace" "latestSale" "J", Cond.instanceMethod yX2_init, Cond.code yX2_init cX2_init 1 none, Cond.methodLink RX2 3 objectInit, Cond.arrayClass .boolean, Cond.fieldLink RX2 9 "TeaRace$Sea" "landCells" "[Z", Cond.fieldLink RX2 15 "TeaRace$Sea" "chartThere" "[Z", Cond.classLink RX2 18 "[[B", Cond.arrayClass .byte, Cond.fieldLink RX2 20 "TeaRace$Sea" "charts" "[[B", Cond.instanceMethod yX1_init, Cond.code yX1_init cX1_init 1 none, Cond.methodLink RX1 3 objectInit, Cond.fieldLink RX1 9 "TeaRace$Passage" "hoursTo" "[I", Cond.fieldLink RX1 15 "TeaRace$Passage" "departed" "[Z"]
def wsL_law_r3 : List Cond := [Cond.methodLink RX5 25 yJx4a65c_init_da8c8, Cond.instanceMethod yJx4a65c_init_da8c8, Cond.code yJx4a65c_init_da8c8 cJx4a65c_init_da8c8 1 none, Cond.fieldLink RJx4a65c 39 "java/util/ArrayList" "DEFAULTCAPACITY_EMPTY_ELEMENTDATA" "[Ljava/lang/Object;", Cond.fieldLink RJx4a65c 9 "java/util/ArrayList" "elementData" "[Ljava/lang/Object;", Cond.methodLink RJx4a65c 1 yJxc12de_init_da8c8, Cond.instanceMethod yJxc12de_init_da8c8, Cond.initialized RJxc12de, Cond.code yJxc12de_init_da8c8 cJxc12de_init_da8c8 1 none, Cond.fieldLink RJxc12de 7 "java/util/AbstractList" "modCount" "I", Cond.methodLink RJxc12de 1 yJxa1e45_init_da8c8, Cond.instanceMethod yJxa1e45_init_da8c8, Cond.initialized RJxa1e45, Cond.code yJxa1e45_init_da8c8 cJxa1e45_init_da8c8 1 none, Cond.methodLink RJxa1e45 1 objectInit, Cond.methodLink RL 12 yX6_init, Cond.instanceMethod yX6_init, Cond.code yX6_init cX6_init 1 none, Cond.methodLink RX6 1 objectInit, Cond.fieldLink RX6 7 "TeaRaceModel" "findings" "[I", Cond.fieldLink RX6 13 "TeaRaceModel" "isLand" "[Z", Cond.fieldLink RX6 17 "TeaRaceModel" "isChart" "[Z", Cond.fieldLink RX6 20 "TeaRaceModel" "winds" "[I", Cond.fieldLink RX6 23 "TeaRaceModel" "moving" "[I"]
def wsL_law_r4 : List Cond := [Cond.fieldLink RX6 26 "TeaRaceModel" "kinds" "[I", Cond.fieldLink RX6 29 "TeaRaceModel" "cells" "[I", Cond.fieldLink RX6 32 "TeaRaceModel" "gone" "[I", Cond.fieldLink RX6 35 "TeaRaceModel" "ways" "[I", Cond.fieldLink RX6 38 "TeaRaceModel" "homeAt" "[I", Cond.fieldLink RX6 41 "TeaRaceModel" "chests" "[I", Cond.fieldLink RX6 44 "TeaRaceModel" "foulness" "[I", Cond.fieldLink RX6 47 "TeaRaceModel" "came" "[I", Cond.fieldLink RX6 50 "TeaRaceModel" "orders" "[I", Cond.fieldLink RX6 53 "TeaRaceModel" "orderRows" "[I", Cond.fieldLink RX6 56 "TeaRaceModel" "rates" "[I", Cond.fieldLink RX6 59 "TeaRaceModel" "premiums" "[I", Cond.fieldLink RX6 62 "TeaRaceModel" "hours" "[I", Cond.fieldLink RX6 65 "TeaRaceModel" "isSettled" "[Z", Cond.fieldLink RX6 68 "TeaRaceModel" "sightShip" "[I", Cond.fieldLink RX6 71 "TeaRaceModel" "sightCell" "[I", Cond.fieldLink RX6 74 "TeaRaceModel" "sightHour" "[I", Cond.fieldLink RX6 77 "TeaRaceModel" "price" "I", Cond.fieldLink RX6 81 "TeaRaceModel" "fall" "I", Cond.methodLink RL 13 yX5_land, Cond.instanceMethod yX5_land, Cond.selects RX5 yX5_land yX5_land, Cond.code yX5_land cX5_land 4 (some .int), Cond.methodLink RX5 60 yX5_outside]
def wsL_law_r5 : List Cond := [Cond.static yX5_outside, Cond.code yX5_outside cX5_outside 2 (some .boolean), Cond.methodLink RX5 64 yX2_isLand, Cond.instanceMethod yX2_isLand, Cond.selects RX2 yX2_isLand yX2_isLand, Cond.code yX2_isLand cX2_isLand 2 (some .boolean), Cond.methodLink RX5 68 yX2_setLand, Cond.instanceMethod yX2_setLand, Cond.selects RX2 yX2_setLand yX2_setLand, Cond.code yX2_setLand cX2_setLand 3 none, Cond.methodLink RL 17 yX6_land, Cond.instanceMethod yX6_land, Cond.selects RX6 yX6_land yX6_land, Cond.code yX6_land cX6_land 4 (some .int), Cond.methodLink RX6 91 yX6_isCell, Cond.static yX6_isCell, Cond.code yX6_isCell cX6_isCell 1 (some .boolean), Cond.methodLink RX6 87 yX6_in, Cond.static yX6_in, Cond.code yX6_in cX6_in 3 (some .boolean), Cond.methodLink RL 18 yX5_chart, Cond.instanceMethod yX5_chart, Cond.selects RX5 yX5_chart yX5_chart, Cond.code yX5_chart cX5_chart 3 (some .int)]
def wsL_law_r6 : List Cond := [Cond.methodLink RX5 72 yX2_hasChart, Cond.instanceMethod yX2_hasChart, Cond.selects RX2 yX2_hasChart yX2_hasChart, Cond.code yX2_hasChart cX2_hasChart 2 (some .boolean), Cond.methodLink RX5 75 yX2_drawCalm, Cond.instanceMethod yX2_drawCalm, Cond.selects RX2 yX2_drawCalm yX2_drawCalm, Cond.code yX2_drawCalm cX2_drawCalm 2 none, Cond.methodLink RX2 27 yJ7_fill_031fb, Cond.static yJ7_fill_031fb, Cond.initialized RJ7, Cond.code yJ7_fill_031fb cJ7_fill_031fb 4 none, Cond.methodLink RL 22 yX6_chart, Cond.instanceMethod yX6_chart, Cond.selects RX6 yX6_chart yX6_chart, Cond.code yX6_chart cX6_chart 4 (some .int), Cond.methodLink RX6 95 yX6_isMonth, Cond.static yX6_isMonth, Cond.code yX6_isMonth cX6_isMonth 1 (some .boolean), Cond.methodLink RL 23 yX5_wind, Cond.instanceMethod yX5_wind, Cond.selects RX5 yX5_wind yX5_wind, Cond.code yX5_wind cX5_wind 5 (some .int), Cond.methodLink RX5 79 yX5_found]
def wsL_law_r7 : List Cond := [Cond.instanceMethod yX5_found, Cond.selects RX5 yX5_found yX5_found, Cond.code yX5_found cX5_found 2 (some .int), Cond.methodLink RX5 83 yX2_drawnAt, Cond.instanceMethod yX2_drawnAt, Cond.selects RX2 yX2_drawnAt yX2_drawnAt, Cond.code yX2_drawnAt cX2_drawnAt 3 (some .int), Cond.methodLink RX2 33 yX2_hasChart, Cond.methodLink RX5 87 yX2_drawAt, Cond.instanceMethod yX2_drawAt, Cond.selects RX2 yX2_drawAt yX2_drawAt, Cond.code yX2_drawAt cX2_drawAt 4 none, Cond.methodLink RL 27 yX6_wind, Cond.instanceMethod yX6_wind, Cond.selects RX6 yX6_wind yX6_wind, Cond.code yX6_wind cX6_wind 6 (some .int), Cond.methodLink RX6 102 yX6_looked, Cond.instanceMethod yX6_looked, Cond.selects RX6 yX6_looked yX6_looked, Cond.code yX6_looked cX6_looked 2 (some .int), Cond.methodLink RX6 98 yX6_meets, Cond.instanceMethod yX6_meets, Cond.selects RX6 yX6_meets yX6_meets, Cond.code yX6_meets cX6_meets 2 (some .int)]
def wsL_law_r8 : List Cond := [Cond.fieldLink RX6 84 "TeaRaceModel" "finding" "I", Cond.methodLink RL 28 yX5_tear, Cond.instanceMethod yX5_tear, Cond.selects RX5 yX5_tear yX5_tear, Cond.code yX5_tear cX5_tear 2 (some .int), Cond.methodLink RX5 91 yX2_loseChart, Cond.instanceMethod yX2_loseChart, Cond.selects RX2 yX2_loseChart yX2_loseChart, Cond.code yX2_loseChart cX2_loseChart 2 none, Cond.methodLink RL 31 yX6_tear, Cond.instanceMethod yX6_tear, Cond.selects RX6 yX6_tear yX6_tear, Cond.code yX6_tear cX6_tear 3 (some .int), Cond.methodLink RL 32 yX5_copy, Cond.instanceMethod yX5_copy, Cond.selects RX5 yX5_copy yX5_copy, Cond.code yX5_copy cX5_copy 6 (some .int), Cond.methodLink RX5 94 yX2_copyChart, Cond.instanceMethod yX2_copyChart, Cond.selects RX2 yX2_copyChart yX2_copyChart, Cond.code yX2_copyChart cX2_copyChart 6 none, Cond.methodLink RX2 37 arraycopyName, Cond.native arraycopyName, Cond.static arraycopyName]
def wsL_law_r9 : List Cond := [Cond.initialized "java/lang/System", Cond.methodLink RL 36 yX6_copy, Cond.instanceMethod yX6_copy, Cond.selects RX6 yX6_copy yX6_copy, Cond.code yX6_copy cX6_copy 7 (some .int), Cond.constantLong RX6 105 (160), Cond.methodLink RL 37 yX5_mean, Cond.instanceMethod yX5_mean, Cond.selects RX5 yX5_mean yX5_mean, Cond.code yX5_mean cX5_mean 4 (some .int), Cond.methodLink RX5 98 yX2_windIn, Cond.instanceMethod yX2_windIn, Cond.selects RX2 yX2_windIn yX2_windIn, Cond.code yX2_windIn cX2_windIn 4 (some .int), Cond.methodLink RX5 101 yX5_strengthOf, Cond.static yX5_strengthOf, Cond.code yX5_strengthOf cX5_strengthOf 1 (some .int), Cond.methodLink RL 40 yX6_mean, Cond.instanceMethod yX6_mean, Cond.selects RX6 yX6_mean yX6_mean, Cond.code yX6_mean cX6_mean 5 (some .int), Cond.methodLink RX6 107 yX6_strength, Cond.static yX6_strength, Cond.code yX6_strength cX6_strength 1 (some .int)]
def wsL_law_r10 : List Cond := [Cond.methodLink RL 41 yX5_ship, Cond.instanceMethod yX5_ship, Cond.selects RX5 yX5_ship yX5_ship, Cond.code yX5_ship cX5_ship 5 (some .int), Cond.classLink RX5 113 RX3, Cond.instantiable RX3 14, Cond.initialized RX3, Cond.methodLink RX5 104 yX5_isNoWater, Cond.instanceMethod yX5_isNoWater, Cond.selects RX5 yX5_isNoWater yX5_isNoWater, Cond.code yX5_isNoWater cX5_isNoWater 2 (some .boolean), Cond.methodLink RX5 107 ⟨"java/util/List", "size", "()I"⟩, Cond.selects RJx4a65c ⟨"java/util/List", "size", "()I"⟩ yJx4a65c_size_8abf5, Cond.instanceMethod yJx4a65c_size_8abf5, Cond.code yJx4a65c_size_8abf5 cJx4a65c_size_8abf5 1 (some .int), Cond.fieldLink RJx4a65c 48 "java/util/ArrayList" "size" "I", Cond.methodLink RX5 115 yX3_init, Cond.instanceMethod yX3_init, Cond.code yX3_init cX3_init 5 none, Cond.methodLink RX3 3 objectInit, Cond.classLink RX3 9 RJx4a65c, Cond.fieldLink RX3 12 "TeaRace$Ship" "orders" "Ljava/util/List;", Cond.fieldLink RX3 18 "TeaRace$Ship" "sights" "Ljava/util/List;", Cond.fieldLink RX3 21 "TeaRace$Ship" "gone" "I"]
def wsL_law_r11 : List Cond := [Cond.fieldLink RX3 25 "TeaRace$Ship" "way" "I", Cond.fieldLink RX3 28 "TeaRace$Ship" "foulness" "I", Cond.fieldLink RX3 31 "TeaRace$Ship" "cellsComeTo" "I", Cond.fieldLink RX3 34 "TeaRace$Ship" "homeHour" "I", Cond.fieldLink RX3 37 "TeaRace$Ship" "entry" "I", Cond.fieldLink RX3 40 "TeaRace$Ship" "rate" "I", Cond.fieldLink RX3 43 "TeaRace$Ship" "premium" "I", Cond.fieldLink RX3 46 "TeaRace$Ship" "number" "I", Cond.fieldLink RX3 49 "TeaRace$Ship" "kind" "I", Cond.fieldLink RX3 52 "TeaRace$Ship" "cell" "I", Cond.fieldLink RX3 55 "TeaRace$Ship" "chests" "I", Cond.methodLink RX3 11 yJx4a65c_init_da8c8, Cond.methodLink RX5 118 ⟨"java/util/List", "add", "(Ljava/lang/Object;)Z"⟩, Cond.selects RJx4a65c ⟨"java/util/List", "add", "(Ljava/lang/Object;)Z"⟩ yJx4a65c_add_9ea2d, Cond.instanceMethod yJx4a65c_add_9ea2d, Cond.code yJx4a65c_add_9ea2d cJx4a65c_add_9ea2d 2 (some .boolean), Cond.fieldLink RJx4a65c 63 "java/util/ArrayList" "modCount" "I", Cond.sameField "java/util/ArrayList" "java/util/AbstractList" "modCount" "I", Cond.methodLink RJx4a65c 131 yJx4a65c_add_72be8, Cond.instanceMethod yJx4a65c_add_72be8, Cond.selects RJx4a65c yJx4a65c_add_72be8 yJx4a65c_add_72be8, Cond.code yJx4a65c_add_72be8 cJx4a65c_add_72be8 4 none, Cond.methodLink RJx4a65c 129 yJx4a65c_grow_d5877, Cond.instanceMethod yJx4a65c_grow_d5877]
def wsL_law_r12 : List Cond := [Cond.selects RJx4a65c yJx4a65c_grow_d5877 yJx4a65c_grow_d5877, Cond.code yJx4a65c_grow_d5877 cJx4a65c_grow_d5877 1 (some (.array (.object "java/lang/Object"))), Cond.methodLink RJx4a65c 69 yJx4a65c_grow_92f84, Cond.instanceMethod yJx4a65c_grow_92f84, Cond.selects RJx4a65c yJx4a65c_grow_92f84 yJx4a65c_grow_92f84, Cond.code yJx4a65c_grow_92f84 cJx4a65c_grow_92f84 4 (some (.array (.object "java/lang/Object"))), Cond.methodLink RJx4a65c 79 Lib.Math.max.name, Cond.static Lib.Math.max.name, Cond.initialized "java/lang/Math", Cond.code Lib.Math.max.name Lib.Math.max.code 2 (some .int), Cond.classLink RJx4a65c 7 "java/lang/Object", Cond.methodLink RJx4a65c 73 yJ8_newLength_cabcc, Cond.static yJ8_newLength_cabcc, Cond.initialized RJ8, Cond.code yJ8_newLength_cabcc cJ8_newLength_cabcc 4 (some .int), Cond.methodLink RJ8 194 Lib.Math.max.name, Cond.constant RJ8 200 (2147483639), Cond.methodLink RJ8 201 yJ8_hugeLength_7cf53, Cond.static yJ8_hugeLength_7cf53, Cond.code yJ8_hugeLength_7cf53 cJ8_hugeLength_7cf53 3 (some .int), Cond.methodLink RJx4a65c 66 yJ7_copyOf_1904c, Cond.static yJ7_copyOf_1904c, Cond.code yJ7_copyOf_1904c cJ7_copyOf_1904c 2 (some (.array (.object "java/lang/Object"))), Cond.methodLink RJ7 86 ⟨"java/lang/Object", "getClass", "()Ljava/lang/Class;"⟩]
def wsL_law_r13 : List Cond := [Cond.selects "[Ljava/lang/Object;" ⟨"java/lang/Object", "getClass", "()Ljava/lang/Class;"⟩ ⟨"java/lang/Object", "getClass", "()Ljava/lang/Class;"⟩, Cond.instanceMethod ⟨"java/lang/Object", "getClass", "()Ljava/lang/Class;"⟩, Cond.native ⟨"java/lang/Object", "getClass", "()Ljava/lang/Class;"⟩, Cond.methodLink RJ7 300 yJ7_copyOf_6403c, Cond.static yJ7_copyOf_6403c, Cond.code yJ7_copyOf_6403c cJ7_copyOf_6403c 4 (some (.array (.object "java/lang/Object"))), Cond.classLink RJ7 110 "[Ljava/lang/Object;", Cond.classLink RJ7 2 "java/lang/Object", Cond.methodLink RJ7 304 Lib.Math.min.name, Cond.static Lib.Math.min.name, Cond.code Lib.Math.min.name Lib.Math.min.code 2 (some .int), Cond.methodLink RJ7 150 arraycopyName, Cond.methodLink RL 44 yX6_ship, Cond.instanceMethod yX6_ship, Cond.selects RX6 yX6_ship yX6_ship, Cond.code yX6_ship cX6_ship 4 (some .int), Cond.fieldLink RX6 110 "TeaRaceModel" "ships" "I", Cond.fieldLink RX6 113 "TeaRaceModel" "hour" "I", Cond.methodLink RL 45 yX5_foul, Cond.instanceMethod yX5_foul, Cond.selects RX5 yX5_foul yX5_foul, Cond.code yX5_foul cX5_foul 5 (some .int), Cond.fieldLink RX5 126 "TeaRace$Ship" "foulness" "I", Cond.methodLink RX5 122 yX5_shipOf]
def wsL_law_r14 : List Cond := [Cond.instanceMethod yX5_shipOf, Cond.selects RX5 yX5_shipOf yX5_shipOf, Cond.code yX5_shipOf cX5_shipOf 2 (some (.object "TeaRace$Ship")), Cond.classLink RX5 113 "TeaRace$Ship", Cond.methodLink RX5 175 ⟨"java/util/List", "get", "(I)Ljava/lang/Object;"⟩, Cond.selects RJx4a65c ⟨"java/util/List", "get", "(I)Ljava/lang/Object;"⟩ yJx4a65c_get_915e3, Cond.instanceMethod yJx4a65c_get_915e3, Cond.code yJx4a65c_get_915e3 cJx4a65c_get_915e3 2 (some (.object "java/lang/Object")), Cond.methodLink RJx4a65c 118 yJ15_checkIndex_7cf53, Cond.static yJ15_checkIndex_7cf53, Cond.initialized RJ15, Cond.code yJ15_checkIndex_7cf53 cJ15_checkIndex_7cf53 2 (some .int), Cond.methodLink RJ15 105 yJ3_checkIndex_8e157, Cond.static yJ3_checkIndex_8e157, Cond.initialized RJ3, Cond.code yJ3_checkIndex_8e157 cJ3_checkIndex_8e157 3 (some .int), Cond.methodLink RJx4a65c 123 yJx4a65c_elementData_915e3, Cond.instanceMethod yJx4a65c_elementData_915e3, Cond.selects RJx4a65c yJx4a65c_elementData_915e3 yJx4a65c_elementData_915e3, Cond.code yJx4a65c_elementData_915e3 cJx4a65c_elementData_915e3 2 (some (.object "java/lang/Object")), Cond.methodLink RL 49 yX6_foul, Cond.instanceMethod yX6_foul, Cond.selects RX6 yX6_foul yX6_foul, Cond.code yX6_foul cX6_foul 4 (some .int)]
def wsL_law_r15 : List Cond := [Cond.methodLink RX6 116 yX6_isShip, Cond.instanceMethod yX6_isShip, Cond.selects RX6 yX6_isShip yX6_isShip, Cond.code yX6_isShip cX6_isShip 2 (some .boolean), Cond.methodLink RL 50 yX5_told, Cond.instanceMethod yX5_told, Cond.selects RX5 yX5_told yX5_told, Cond.code yX5_told cX5_told 4 (some .int), Cond.fieldLink RX5 129 "TeaRace$Ship" "kind" "I", Cond.fieldLink RX5 132 "TeaRace$Ship" "cell" "I", Cond.fieldLink RX5 135 "TeaRace$Ship" "gone" "I", Cond.fieldLink RX5 138 "TeaRace$Ship" "way" "I", Cond.fieldLink RX5 141 "TeaRace$Ship" "homeHour" "I", Cond.fieldLink RX5 144 "TeaRace$Ship" "entry" "I", Cond.fieldLink RX5 147 "TeaRace$Ship" "chests" "I", Cond.methodLink RL 53 yX6_told, Cond.instanceMethod yX6_told, Cond.selects RX6 yX6_told yX6_told, Cond.code yX6_told cX6_told 3 (some .int), Cond.methodLink RX6 125 yX6_tells, Cond.instanceMethod yX6_tells, Cond.selects RX6 yX6_tells yX6_tells, Cond.code yX6_tells cX6_tells 3 (some .int), Cond.methodLink RX6 122 yX6_entryOf]
def wsL_law_r16 : List Cond := [Cond.instanceMethod yX6_entryOf, Cond.selects RX6 yX6_entryOf yX6_entryOf, Cond.code yX6_entryOf cX6_entryOf 3 (some .int), Cond.fieldLink RX6 119 "TeaRaceModel" "gate" "I", Cond.methodLink RL 54 yX5_mark, Cond.instanceMethod yX5_mark, Cond.selects RX5 yX5_mark yX5_mark, Cond.code yX5_mark cX5_mark 4 (some .int), Cond.fieldLink RX5 153 "TeaRace$Ship" "orders" "Ljava/util/List;", Cond.fieldLink RX5 159 "TeaRace$Ship" "cellsComeTo" "I", Cond.methodLink RX5 150 yX3_isOf, Cond.instanceMethod yX3_isOf, Cond.selects RX3 yX3_isOf yX3_isOf, Cond.code yX3_isOf cX3_isOf 2 (some .boolean), Cond.methodLink RX5 156 yX3_speedIn, Cond.instanceMethod yX3_speedIn, Cond.selects RX3 yX3_speedIn yX3_speedIn, Cond.code yX3_speedIn cX3_speedIn 4 (some .int), Cond.methodLink RX3 69 Lib.Math.max.name, Cond.static yX5_eighthsBetween, Cond.code yX5_eighthsBetween cX5_eighthsBetween 3 (some .int), Cond.methodLink RX5 251 Lib.Math.abs.name, Cond.static Lib.Math.abs.name, Cond.code Lib.Math.abs.name Lib.Math.abs.code 1 (some .int)]
def wsL_law_r17 : List Cond := [Cond.methodLink RX5 256 Lib.Math.min.name, Cond.methodLink RX3 66 yX3_sailSpeed, Cond.instanceMethod yX3_sailSpeed, Cond.selects RX3 yX3_sailSpeed yX3_sailSpeed, Cond.code yX3_sailSpeed cX3_sailSpeed 3 (some .int), Cond.methodLink RX3 74 yX3_moreAcrossTheWind, Cond.instanceMethod yX3_moreAcrossTheWind, Cond.selects RX3 yX3_moreAcrossTheWind yX3_moreAcrossTheWind, Cond.code yX3_moreAcrossTheWind cX3_moreAcrossTheWind 1 (some .int), Cond.methodLink RL 57 yX6_mark, Cond.instanceMethod yX6_mark, Cond.selects RX6 yX6_mark yX6_mark, Cond.code yX6_mark cX6_mark 4 (some .int), Cond.methodLink RX6 129 yX6_speedOf, Cond.instanceMethod yX6_speedOf, Cond.selects RX6 yX6_speedOf yX6_speedOf, Cond.code yX6_speedOf cX6_speedOf 8 (some .int), Cond.methodLink RL 58 yX5_speed, Cond.instanceMethod yX5_speed, Cond.selects RX5 yX5_speed yX5_speed, Cond.code yX5_speed cX5_speed 6 (some .int), Cond.methodLink RL 62 yX6_speed, Cond.instanceMethod yX6_speed, Cond.selects RX6 yX6_speed yX6_speed]
def wsL_law_r18 : List Cond := [Cond.code yX6_speed cX6_speed 5 (some .int), Cond.methodLink RX6 133 yX6_isWay, Cond.static yX6_isWay, Cond.code yX6_isWay cX6_isWay 1 (some .boolean), Cond.methodLink RL 63 yX5_order, Cond.instanceMethod yX5_order, Cond.selects RX5 yX5_order yX5_order, Cond.code yX5_order cX5_order 9 (some .int), Cond.classLink RX5 166 RX0, Cond.instantiable RX0 6, Cond.initialized RX0, Cond.methodLink RX5 162 yX5_isNoSpan, Cond.static yX5_isNoSpan, Cond.code yX5_isNoSpan cX5_isNoSpan 3 (some .boolean), Cond.methodLink RX5 168 yX0_init, Cond.instanceMethod yX0_init, Cond.code yX0_init cX0_init 7 none, Cond.methodLink RX0 3 objectInit, Cond.fieldLink RX0 9 "TeaRace$Order" "west" "I", Cond.fieldLink RX0 15 "TeaRace$Order" "east" "I", Cond.fieldLink RX0 18 "TeaRace$Order" "north" "I", Cond.fieldLink RX0 21 "TeaRace$Order" "south" "I", Cond.fieldLink RX0 24 "TeaRace$Order" "strength" "I", Cond.fieldLink RX0 27 "TeaRace$Order" "way" "I"]
def wsL_law_r19 : List Cond := [Cond.methodLink RL 67 yX6_order, Cond.instanceMethod yX6_order, Cond.selects RX6 yX6_order yX6_order, Cond.code yX6_order cX6_order 9 (some .int), Cond.methodLink RL 68 yX5_home, Cond.instanceMethod yX5_home, Cond.selects RX5 yX5_home yX5_home, Cond.code yX5_home cX5_home 3 (some .int), Cond.methodLink RL 71 yX6_home, Cond.instanceMethod yX6_home, Cond.selects RX6 yX6_home yX6_home, Cond.code yX6_home cX6_home 3 (some .int), Cond.fieldLink RX6 136 "TeaRaceModel" "home" "I", Cond.methodLink RL 72 yX5_run, Cond.instanceMethod yX5_run, Cond.selects RX5 yX5_run yX5_run, Cond.code yX5_run cX5_run 4 (some .int), Cond.constant RX5 171 (100000), Cond.methodLink RX5 172 yX5_shipsHome, Cond.instanceMethod yX5_shipsHome, Cond.selects RX5 yX5_shipsHome yX5_shipsHome, Cond.code yX5_shipsHome cX5_shipsHome 3 (some .int), Cond.methodLink RX5 222 yX3_isHome, Cond.instanceMethod yX3_isHome]
def wsL_law_r20 : List Cond := [Cond.selects RX3 yX3_isHome yX3_isHome, Cond.code yX3_isHome cX3_isHome 1 (some .boolean), Cond.methodLink RX5 179 yX5_sail, Cond.instanceMethod yX5_sail, Cond.selects RX5 yX5_sail yX5_sail, Cond.code yX5_sail cX5_sail 5 none, Cond.methodLink RX5 262 yX5_monthOf, Cond.static yX5_monthOf, Cond.code yX5_monthOf cX5_monthOf 1 (some .int), Cond.methodLink RX5 259 yJ9_floorMod_7cf53, Cond.static yJ9_floorMod_7cf53, Cond.initialized RJ9, Cond.code yJ9_floorMod_7cf53 cJ9_floorMod_7cf53 3 (some .int), Cond.methodLink RX5 265 yX3_askWay, Cond.instanceMethod yX3_askWay, Cond.selects RX3 yX3_askWay yX3_askWay, Cond.code yX3_askWay cX3_askWay 4 none, Cond.classLink RX3 87 "TeaRace$Order", Cond.fieldLink RX3 93 "TeaRace$Order" "way" "I", Cond.methodLink RX3 78 ⟨"java/util/List", "size", "()I"⟩, Cond.methodLink RX3 83 ⟨"java/util/List", "get", "(I)Ljava/lang/Object;"⟩, Cond.methodLink RX3 89 yX0_fits, Cond.instanceMethod yX0_fits, Cond.selects RX0 yX0_fits yX0_fits]
def wsL_law_r21 : List Cond := [Cond.code yX0_fits cX0_fits 5 (some .boolean), Cond.methodLink RX5 268 yX5_needOf, Cond.static yX5_needOf, Cond.code yX5_needOf cX5_needOf 1 (some .int), Cond.methodLink RX5 271 yX5_moveOn, Cond.instanceMethod yX5_moveOn, Cond.selects RX5 yX5_moveOn yX5_moveOn, Cond.code yX5_moveOn cX5_moveOn 5 none, Cond.methodLink RX5 274 yX2_nextCell, Cond.instanceMethod yX2_nextCell, Cond.selects RX2 yX2_nextCell yX2_nextCell, Cond.code yX2_nextCell cX2_nextCell 6 (some .int), Cond.methodLink RX2 50 yX2_isLand, Cond.methodLink RX5 277 yX5_comeTo, Cond.instanceMethod yX5_comeTo, Cond.selects RX5 yX5_comeTo yX5_comeTo, Cond.code yX5_comeTo cX5_comeTo 4 none, Cond.methodLink RX5 281 yX5_entryFrom, Cond.instanceMethod yX5_entryFrom, Cond.selects RX5 yX5_entryFrom yX5_entryFrom, Cond.code yX5_entryFrom cX5_entryFrom 3 (some .int), Cond.methodLink RL 75 yX6_run, Cond.instanceMethod yX6_run, Cond.selects RX6 yX6_run yX6_run]
def wsL_law_r22 : List Cond := [Cond.code yX6_run cX6_run 5 (some .int), Cond.constant RX6 152 (100000), Cond.methodLink RX6 153 yX6_atHome, Cond.instanceMethod yX6_atHome, Cond.selects RX6 yX6_atHome yX6_atHome, Cond.code yX6_atHome cX6_atHome 3 (some .int), Cond.methodLink RX6 157 yX6_go, Cond.instanceMethod yX6_go, Cond.selects RX6 yX6_go yX6_go, Cond.code yX6_go cX6_go 4 none, Cond.methodLink RX6 142 yX6_ask, Cond.instanceMethod yX6_ask, Cond.selects RX6 yX6_ask yX6_ask, Cond.code yX6_ask cX6_ask 5 none, Cond.methodLink RX6 139 yX6_windAt, Cond.instanceMethod yX6_windAt, Cond.selects RX6 yX6_windAt yX6_windAt, Cond.code yX6_windAt cX6_windAt 5 (some .int), Cond.methodLink RX6 146 yX6_need, Cond.static yX6_need, Cond.code yX6_need cX6_need 1 (some .int), Cond.methodLink RX6 149 yX6_nextCell, Cond.instanceMethod yX6_nextCell, Cond.selects RX6 yX6_nextCell yX6_nextCell]
def wsL_law_r23 : List Cond := [Cond.code yX6_nextCell cX6_nextCell 5 (some .int), Cond.methodLink RL 76 yX5_first, Cond.instanceMethod yX5_first, Cond.selects RX5 yX5_first yX5_first, Cond.code yX5_first cX5_first 2 (some .int), Cond.fieldLink RX5 187 "TeaRace$Ship" "number" "I", Cond.methodLink RX5 183 yX5_theFirst, Cond.instanceMethod yX5_theFirst, Cond.selects RX5 yX5_theFirst yX5_theFirst, Cond.code yX5_theFirst cX5_theFirst 4 (some (.object "TeaRace$Ship")), Cond.methodLink RX5 284 yX3_beats, Cond.instanceMethod yX3_beats, Cond.selects RX3 yX3_beats yX3_beats, Cond.code yX3_beats cX3_beats 2 (some .boolean), Cond.methodLink RL 80 yX6_first, Cond.instanceMethod yX6_first, Cond.selects RX6 yX6_first yX6_first, Cond.code yX6_first cX6_first 1 (some .int), Cond.methodLink RX6 160 yX6_firstShip, Cond.instanceMethod yX6_firstShip, Cond.selects RX6 yX6_firstShip yX6_firstShip, Cond.code yX6_firstShip cX6_firstShip 4 (some .int), Cond.methodLink RL 81 yX5_least, Cond.instanceMethod yX5_least]
def wsL_law_r24 : List Cond := [Cond.selects RX5 yX5_least yX5_least, Cond.code yX5_least cX5_least 6 (some .int), Cond.constant RX5 190 (98000), Cond.methodLink RX5 191 yX1_leastHours, Cond.instanceMethod yX1_leastHours, Cond.selects RX1 yX1_leastHours yX1_leastHours, Cond.code yX1_leastHours cX1_leastHours 8 (some .int), Cond.methodLink RX1 23 yX1_earliestCell, Cond.instanceMethod yX1_earliestCell, Cond.selects RX1 yX1_earliestCell yX1_earliestCell, Cond.code yX1_earliestCell cX1_earliestCell 4 (some .int), Cond.methodLink RX1 27 yX1_leave, Cond.instanceMethod yX1_leave, Cond.selects RX1 yX1_leave yX1_leave, Cond.code yX1_leave cX1_leave 8 none, Cond.methodLink RX1 31 yX2_nextCell, Cond.methodLink RX1 37 yX1_comingHour, Cond.static yX1_comingHour, Cond.code yX1_comingHour cX1_comingHour 11 (some .int), Cond.methodLink RX1 49 Lib.Math.max.name, Cond.methodLink RX1 57 yX2_windIn, Cond.methodLink RX1 60 yX3_speedIn, Cond.methodLink RX1 65 yX1_hoursFor, Cond.static yX1_hoursFor]
def wsL_law_r25 : List Cond := [Cond.code yX1_hoursFor cX1_hoursFor 2 (some .int), Cond.methodLink RX1 41 yX1_reach, Cond.instanceMethod yX1_reach, Cond.selects RX1 yX1_reach yX1_reach, Cond.code yX1_reach cX1_reach 3 none, Cond.methodLink RL 84 yX6_least, Cond.instanceMethod yX6_least, Cond.selects RX6 yX6_least yX6_least, Cond.code yX6_least cX6_least 9 (some .int), Cond.constant RX6 163 (98000), Cond.methodLink RX6 164 yX6_crossing, Cond.instanceMethod yX6_crossing, Cond.selects RX6 yX6_crossing yX6_crossing, Cond.code yX6_crossing cX6_crossing 9 (some .int), Cond.methodLink RL 85 yX5_sight, Cond.instanceMethod yX5_sight, Cond.selects RX5 yX5_sight yX5_sight, Cond.code yX5_sight cX5_sight 5 (some .int), Cond.fieldLink RX5 198 "TeaRace$Ship" "sights" "Ljava/util/List;", Cond.classLink RX5 201 RX4, Cond.instantiable RX4 2, Cond.initialized RX4, Cond.methodLink RX5 195 yX3_isUnseenFrom, Cond.instanceMethod yX3_isUnseenFrom]
def wsL_law_r26 : List Cond := [Cond.selects RX3 yX3_isUnseenFrom yX3_isUnseenFrom, Cond.code yX3_isUnseenFrom cX3_isUnseenFrom 2 (some .boolean), Cond.methodLink RX3 94 yX3_firstSightFrom, Cond.instanceMethod yX3_firstSightFrom, Cond.selects RX3 yX3_firstSightFrom yX3_firstSightFrom, Cond.code yX3_firstSightFrom cX3_firstSightFrom 4 (some (.object "TeaRace$Sight")), Cond.classLink RX3 101 "TeaRace$Sight", Cond.fieldLink RX3 103 "TeaRace$Sight" "hour" "I", Cond.methodLink RX5 203 yX4_init, Cond.instanceMethod yX4_init, Cond.code yX4_init cX4_init 3 none, Cond.methodLink RX4 1 objectInit, Cond.fieldLink RX4 7 "TeaRace$Sight" "cell" "I", Cond.fieldLink RX4 13 "TeaRace$Sight" "hour" "I", Cond.methodLink RL 88 yX6_sight, Cond.instanceMethod yX6_sight, Cond.selects RX6 yX6_sight yX6_sight, Cond.code yX6_sight cX6_sight 6 (some .int), Cond.fieldLink RX6 168 "TeaRaceModel" "sights" "I", Cond.methodLink RL 89 yX5_distance, Cond.instanceMethod yX5_distance, Cond.selects RX5 yX5_distance yX5_distance, Cond.code yX5_distance cX5_distance 5 (some .int), Cond.methodLink RX5 206 yX5_mostDistance]
def wsL_law_r27 : List Cond := [Cond.instanceMethod yX5_mostDistance, Cond.selects RX5 yX5_mostDistance yX5_mostDistance, Cond.code yX5_mostDistance cX5_mostDistance 7 (some .int), Cond.fieldLink RX5 298 "TeaRace$Sight" "cell" "I", Cond.fieldLink RX5 302 "TeaRace$Sight" "hour" "I", Cond.methodLink RX5 291 yX3_lastSightBy, Cond.instanceMethod yX3_lastSightBy, Cond.selects RX3 yX3_lastSightBy yX3_lastSightBy, Cond.code yX3_lastSightBy cX3_lastSightBy 5 (some (.object "TeaRace$Sight")), Cond.methodLink RX5 295 yX3_firstSightFrom, Cond.methodLink RX5 299 yX5_distanceFromHome, Cond.instanceMethod yX5_distanceFromHome, Cond.selects RX5 yX5_distanceFromHome yX5_distanceFromHome, Cond.code yX5_distanceFromHome cX5_distanceFromHome 4 (some .int), Cond.methodLink RX5 288 Lib.Math.max.name, Cond.methodLink RX5 210 yX5_leastDistance, Cond.instanceMethod yX5_leastDistance, Cond.selects RX5 yX5_leastDistance yX5_leastDistance, Cond.code yX5_leastDistance cX5_leastDistance 7 (some .int), Cond.methodLink RL 93 yX6_distance, Cond.instanceMethod yX6_distance, Cond.selects RX6 yX6_distance yX6_distance, Cond.code yX6_distance cX6_distance 4 (some .int), Cond.methodLink RX6 177 yX6_distanceOf]
def wsL_law_r28 : List Cond := [Cond.instanceMethod yX6_distanceOf, Cond.selects RX6 yX6_distanceOf yX6_distanceOf, Cond.code yX6_distanceOf cX6_distanceOf 11 (some .int), Cond.methodLink RX6 174 yX6_farOf, Cond.instanceMethod yX6_farOf, Cond.selects RX6 yX6_farOf yX6_farOf, Cond.code yX6_farOf cX6_farOf 4 (some .int), Cond.methodLink RX6 171 yX6_apart, Cond.static yX6_apart, Cond.code yX6_apart cX6_apart 2 (some .int), Cond.methodLink RL 94 yX5_ahead, Cond.instanceMethod yX5_ahead, Cond.selects RX5 yX5_ahead yX5_ahead, Cond.code yX5_ahead cX5_ahead 6 (some .int), Cond.methodLink RX5 213 yX3_isSeenAround, Cond.instanceMethod yX3_isSeenAround, Cond.selects RX3 yX3_isSeenAround yX3_isSeenAround, Cond.code yX3_isSeenAround cX3_isSeenAround 2 (some .boolean), Cond.methodLink RX3 98 yX3_lastSightBy, Cond.methodLink RL 97 yX6_ahead, Cond.instanceMethod yX6_ahead, Cond.selects RX6 yX6_ahead yX6_ahead, Cond.code yX6_ahead cX6_ahead 6 (some .int), Cond.methodLink RL 98 yX5_charter]
def wsL_law_r29 : List Cond := [Cond.instanceMethod yX5_charter, Cond.selects RX5 yX5_charter yX5_charter, Cond.code yX5_charter cX5_charter 5 (some .int), Cond.fieldLink RX5 216 "TeaRace$Ship" "rate" "I", Cond.fieldLink RX5 219 "TeaRace$Ship" "premium" "I", Cond.methodLink RL 101 yX6_charter, Cond.instanceMethod yX6_charter, Cond.selects RX6 yX6_charter yX6_charter, Cond.code yX6_charter cX6_charter 4 (some .int), Cond.methodLink RL 102 yX5_freight, Cond.instanceMethod yX5_freight, Cond.selects RX5 yX5_freight yX5_freight, Cond.code yX5_freight cX5_freight 4 (some .int), Cond.methodLink RL 105 yX6_freight, Cond.instanceMethod yX6_freight, Cond.selects RX6 yX6_freight yX6_freight, Cond.code yX6_freight cX6_freight 2 (some .int), Cond.methodLink RL 106 yX5_market, Cond.instanceMethod yX5_market, Cond.selects RX5 yX5_market yX5_market, Cond.code yX5_market cX5_market 3 (some .int), Cond.methodLink RL 109 yX6_market, Cond.instanceMethod yX6_market, Cond.selects RX6 yX6_market yX6_market]
def wsL_law_r30 : List Cond := [Cond.code yX6_market cX6_market 3 (some .int), Cond.methodLink RL 110 yX5_sale, Cond.instanceMethod yX5_sale, Cond.selects RX5 yX5_sale yX5_sale, Cond.code yX5_sale cX5_sale 3 (some .int), Cond.methodLink RX5 226 yX5_takings, Cond.instanceMethod yX5_takings, Cond.selects RX5 yX5_takings yX5_takings, Cond.code yX5_takings cX5_takings 2 (some .long), Cond.methodLink RX5 230 yX5_priceAtEntry, Cond.instanceMethod yX5_priceAtEntry, Cond.selects RX5 yX5_priceAtEntry yX5_priceAtEntry, Cond.code yX5_priceAtEntry cX5_priceAtEntry 5 (some .int), Cond.methodLink RX5 303 yX3_entersBefore, Cond.instanceMethod yX3_entersBefore, Cond.selects RX3 yX3_entersBefore yX3_entersBefore, Cond.code yX3_entersBefore cX3_entersBefore 2 (some .boolean), Cond.methodLink RL 113 yX6_sale, Cond.instanceMethod yX6_sale, Cond.selects RX6 yX6_sale yX6_sale, Cond.code yX6_sale cX6_sale 3 (some .int), Cond.fieldLink RX6 184 "TeaRaceModel" "asked" "J", Cond.methodLink RX6 181 yX6_priceFor, Cond.instanceMethod yX6_priceFor]
def wsL_law_r31 : List Cond := [Cond.selects RX6 yX6_priceFor yX6_priceFor, Cond.code yX6_priceFor cX6_priceFor 5 (some .int), Cond.methodLink RL 114 yX5_meanPrice, Cond.instanceMethod yX5_meanPrice, Cond.selects RX5 yX5_meanPrice yX5_meanPrice, Cond.code yX5_meanPrice cX5_meanPrice 7 (some .int), Cond.methodLink RL 117 yX6_meanPrice, Cond.instanceMethod yX6_meanPrice, Cond.selects RX6 yX6_meanPrice yX6_meanPrice, Cond.code yX6_meanPrice cX6_meanPrice 6 (some .int), Cond.methodLink RL 118 yX5_asked, Cond.instanceMethod yX5_asked, Cond.selects RX5 yX5_asked yX5_asked, Cond.code yX5_asked cX5_asked 1 (some .long), Cond.methodLink RL 122 yX6_asked, Cond.instanceMethod yX6_asked, Cond.selects RX6 yX6_asked yX6_asked, Cond.code yX6_asked cX6_asked 1 (some .long), Cond.methodLink RL 123 yX5_count, Cond.instanceMethod yX5_count, Cond.selects RX5 yX5_count yX5_count, Cond.code yX5_count cX5_count 2 (some .int), Cond.methodLink RX5 234 yX2_chartsThere, Cond.instanceMethod yX2_chartsThere]
def wsL_law_r32 : List Cond := [Cond.selects RX2 yX2_chartsThere yX2_chartsThere, Cond.code yX2_chartsThere cX2_chartsThere 3 (some .int), Cond.methodLink RL 126 yX6_count, Cond.instanceMethod yX6_count, Cond.selects RX6 yX6_count yX6_count, Cond.code yX6_count cX6_count 2 (some .int), Cond.methodLink RX6 188 yX6_tellsCount, Cond.instanceMethod yX6_tellsCount, Cond.selects RX6 yX6_tellsCount yX6_tellsCount, Cond.code yX6_tellsCount cX6_tellsCount 4 (some .int), Cond.methodLink RL 127 yX5_finding, Cond.instanceMethod yX5_finding, Cond.selects RX5 yX5_finding yX5_finding, Cond.code yX5_finding cX5_finding 1 (some .int), Cond.methodLink RL 130 yX6_finding, Cond.instanceMethod yX6_finding, Cond.selects RX6 yX6_finding yX6_finding, Cond.code yX6_finding cX6_finding 1 (some .int), Cond.methodLink RL 131 yX5_findings, Cond.instanceMethod yX5_findings, Cond.selects RX5 yX5_findings yX5_findings, Cond.code yX5_findings cX5_findings 2 (some .int), Cond.methodLink RL 134 yX6_findings, Cond.instanceMethod yX6_findings]
def wsL_law_r33 : List Cond := [Cond.selects RX6 yX6_findings yX6_findings, Cond.code yX6_findings cX6_findings 2 (some .int), Cond.methodLink RL 135 yX5_digest, Cond.instanceMethod yX5_digest, Cond.selects RX5 yX5_digest yX5_digest, Cond.code yX5_digest cX5_digest 5 (some .long), Cond.constantLong RX5 237 (17), Cond.constantLong RX5 239 (31), Cond.methodLink RX5 241 yX5_count, Cond.methodLink RX5 244 yX5_told, Cond.methodLink RX5 247 yX2_digestChart, Cond.instanceMethod yX2_digestChart, Cond.selects RX2 yX2_digestChart yX2_digestChart, Cond.code yX2_digestChart cX2_digestChart 7 (some .long), Cond.constantLong RX2 53 (31), Cond.methodLink RX2 55 yX2_drawnAt, Cond.methodLink RL 138 yX6_digest, Cond.instanceMethod yX6_digest, Cond.selects RX6 yX6_digest yX6_digest, Cond.code yX6_digest cX6_digest 5 (some .long), Cond.constantLong RX6 191 (17), Cond.constantLong RX6 193 (31)]
def wsL_law : List Cond := (wsL_law_r1 ++ (wsL_law_r2 ++ (wsL_law_r3 ++ (wsL_law_r4 ++ (wsL_law_r5 ++ (wsL_law_r6 ++ (wsL_law_r7 ++ (wsL_law_r8 ++ (wsL_law_r9 ++ (wsL_law_r10 ++ (wsL_law_r11 ++ (wsL_law_r12 ++ (wsL_law_r13 ++ (wsL_law_r14 ++ (wsL_law_r15 ++ (wsL_law_r16 ++ (wsL_law_r17 ++ (wsL_law_r18 ++ (wsL_law_r19 ++ (wsL_law_r20 ++ (wsL_law_r21 ++ (wsL_law_r22 ++ (wsL_law_r23 ++ (wsL_law_r24 ++ (wsL_law_r25 ++ (wsL_law_r26 ++ (wsL_law_r27 ++ (wsL_law_r28 ++ (wsL_law_r29 ++ (wsL_law_r30 ++ (wsL_law_r31 ++ (wsL_law_r32 ++ wsL_law_r33)))))))))))))))))))))))))))))))) ++ wsX50 ++ wsX60 ++ wsX20 ++ wsX10 ++ wsJx4a65c0 ++ wsX30 ++ wsX00 ++ wsX40 ++ ([] : List Cond)
set_option maxRecDepth 20000 in
theorem wsLin_r1 : ∀ w ∈ wsL_law_r1, w ∈ lw_tbl := fun w h => (goodIn_r (big := lw_tbl) wsL_law_r1 [56, 57, 40, 713, 714, 46, 58, 59, 60, 61, 62, 63, 64, 65, 41, 124, 84, 85, 42, 125, 98, 99, 45, 126] (by decide +kernel) (by decide +kernel) w h).1
set_option maxRecDepth 20000 in
theorem wsLin_r2 : ∀ w ∈ wsL_law_r2, w ∈ lw_tbl := fun w h => (goodIn_r (big := lw_tbl) wsL_law_r2 [97, 127, 128, 129, 130, 131, 132, 133, 134, 135, 67, 68, 69, 82, 72, 73, 70, 83, 74, 87, 88, 89, 90, 91] (by decide +kernel) (by decide +kernel) w h).1
set_option maxRecDepth 20000 in
theorem wsLin_r3 : ∀ w ∈ wsL_law_r3, w ∈ lw_tbl := fun w h => (goodIn_r (big := lw_tbl) wsL_law_r3 [100, 101, 102, 110, 112, 103, 104, 44, 105, 114, 106, 107, 43, 108, 109, 715, 716, 717, 718, 720, 723, 724, 725, 728] (by decide +kernel) (by decide +kernel) w h).1
set_option maxRecDepth 20000 in
theorem wsLin_r4 : ∀ w ∈ wsL_law_r4, w ∈ lw_tbl := fun w h => (goodIn_r (big := lw_tbl) wsL_law_r4 [730, 731, 732, 733, 734, 735, 736, 737, 738, 739, 740, 741, 742, 743, 745, 746, 747, 748, 749, 161, 162, 163, 164, 165] (by decide +kernel) (by decide +kernel) w h).1
set_option maxRecDepth 20000 in
theorem wsLin_r5 : ∀ w ∈ wsL_law_r5, w ∈ lw_tbl := fun w h => (goodIn_r (big := lw_tbl) wsL_law_r5 [166, 167, 168, 169, 170, 171, 173, 174, 175, 176, 813, 814, 815, 816, 817, 818, 819, 820, 821, 822, 177, 178, 179, 180] (by decide +kernel) (by decide +kernel) w h).1
set_option maxRecDepth 20000 in
theorem wsLin_r6 : ∀ w ∈ wsL_law_r6, w ∈ lw_tbl := fun w h => (goodIn_r (big := lw_tbl) wsL_law_r6 [181, 182, 183, 184, 185, 186, 187, 188, 189, 190, 47, 191, 823, 824, 825, 826, 827, 828, 829, 192, 193, 194, 195, 196] (by decide +kernel) (by decide +kernel) w h).1
set_option maxRecDepth 20000 in
theorem wsLin_r7 : ∀ w ∈ wsL_law_r7, w ∈ lw_tbl := fun w h => (goodIn_r (big := lw_tbl) wsL_law_r7 [198, 0, 199, 200, 201, 202, 203, 204, 205, 206, 207, 208, 830, 831, 832, 833, 834, 836, 22, 837, 838, 840, 23, 841] (by decide +kernel) (by decide +kernel) w h).1
set_option maxRecDepth 20000 in
theorem wsLin_r8 : ∀ w ∈ wsL_law_r8, w ∈ lw_tbl := fun w h => (goodIn_r (big := lw_tbl) wsL_law_r8 [719, 209, 210, 211, 212, 213, 214, 215, 216, 842, 843, 844, 845, 217, 218, 219, 220, 221, 222, 223, 224, 225, 227, 226] (by decide +kernel) (by decide +kernel) w h).1
set_option maxRecDepth 20000 in
theorem wsLin_r9 : ∀ w ∈ wsL_law_r9, w ∈ lw_tbl := fun w h => (goodIn_r (big := lw_tbl) wsL_law_r9 [48, 846, 847, 848, 849, 850, 228, 229, 230, 231, 232, 233, 234, 235, 236, 237, 238, 851, 852, 853, 854, 855, 856, 857] (by decide +kernel) (by decide +kernel) w h).1
set_option maxRecDepth 20000 in
theorem wsLin_r10 : ∀ w ∈ wsL_law_r10, w ∈ lw_tbl := fun w h => (goodIn_r (big := lw_tbl) wsL_law_r10 [239, 240, 241, 242, 257, 258, 49, 243, 245, 1, 246, 248, 252, 254, 256, 113, 259, 260, 261, 262, 263, 271, 273, 277] (by decide +kernel) (by decide +kernel) w h).1
set_option maxRecDepth 20000 in
theorem wsLin_r11 : ∀ w ∈ wsL_law_r11, w ∈ lw_tbl := fun w h => (goodIn_r (big := lw_tbl) wsL_law_r11 [279, 281, 283, 285, 287, 289, 291, 265, 267, 275, 269, 264, 323, 326, 328, 330, 115, 116, 331, 333, 2, 334, 335, 337] (by decide +kernel) (by decide +kernel) w h).1
set_option maxRecDepth 20000 in
theorem wsLin_r12 : ∀ w ∈ wsL_law_r12, w ∈ lw_tbl := fun w h => (goodIn_r (big := lw_tbl) wsL_law_r12 [3, 338, 339, 341, 4, 342, 378, 347, 51, 348, 379, 343, 344, 50, 345, 346, 349, 350, 351, 352, 353, 354, 355, 356] (by decide +kernel) (by decide +kernel) w h).1
set_option maxRecDepth 20000 in
theorem wsLin_r13 : ∀ w ∈ wsL_law_r13, w ∈ lw_tbl := fun w h => (goodIn_r (big := lw_tbl) wsL_law_r13 [1032, 357, 367, 368, 369, 370, 371, 373, 374, 375, 376, 377, 858, 859, 860, 861, 729, 722, 380, 381, 382, 383, 282, 384] (by decide +kernel) (by decide +kernel) w h).1
set_option maxRecDepth 20000 in
theorem wsLin_r14 : ∀ w ∈ wsL_law_r14, w ∈ lw_tbl := fun w h => (goodIn_r (big := lw_tbl) wsL_law_r14 [386, 5, 387, 257, 389, 392, 394, 396, 397, 398, 52, 399, 400, 401, 53, 402, 403, 404, 405, 406, 862, 863, 864, 865] (by decide +kernel) (by decide +kernel) w h).1
set_option maxRecDepth 20000 in
theorem wsLin_r15 : ∀ w ∈ wsL_law_r15, w ∈ lw_tbl := fun w h => (goodIn_r (big := lw_tbl) wsL_law_r15 [866, 868, 24, 869, 407, 408, 409, 410, 268, 276, 278, 280, 286, 288, 270, 870, 871, 872, 873, 874, 876, 25, 877, 878] (by decide +kernel) (by decide +kernel) w h).1
set_option maxRecDepth 20000 in
theorem wsLin_r16 : ∀ w ∈ wsL_law_r16, w ∈ lw_tbl := fun w h => (goodIn_r (big := lw_tbl) wsL_law_r16 [880, 26, 881, 727, 411, 412, 413, 414, 272, 284, 415, 416, 417, 418, 419, 420, 421, 422, 439, 424, 425, 426, 427, 428] (by decide +kernel) (by decide +kernel) w h).1
set_option maxRecDepth 20000 in
theorem wsLin_r17 : ∀ w ∈ wsL_law_r17, w ∈ lw_tbl := fun w h => (goodIn_r (big := lw_tbl) wsL_law_r17 [429, 431, 433, 6, 434, 435, 437, 7, 438, 882, 883, 884, 885, 886, 888, 27, 889, 440, 441, 442, 443, 890, 891, 892] (by decide +kernel) (by decide +kernel) w h).1
set_option maxRecDepth 20000 in
theorem wsLin_r18 : ∀ w ∈ wsL_law_r18, w ∈ lw_tbl := fun w h => (goodIn_r (big := lw_tbl) wsL_law_r18 [893, 894, 895, 896, 444, 445, 446, 447, 451, 452, 54, 448, 449, 450, 453, 454, 455, 456, 459, 460, 461, 462, 463, 457] (by decide +kernel) (by decide +kernel) w h).1
set_option maxRecDepth 20000 in
theorem wsLin_r19 : ∀ w ∈ wsL_law_r19, w ∈ lw_tbl := fun w h => (goodIn_r (big := lw_tbl) wsL_law_r19 [897, 898, 899, 900, 477, 478, 479, 480, 901, 902, 903, 904, 726, 481, 482, 483, 484, 485, 486, 488, 8, 489, 490, 491] (by decide +kernel) (by decide +kernel) w h).1
set_option maxRecDepth 20000 in
theorem wsLin_r20 : ∀ w ∈ wsL_law_r20, w ∈ lw_tbl := fun w h => (goodIn_r (big := lw_tbl) wsL_law_r20 [492, 493, 494, 496, 9, 497, 498, 499, 500, 501, 502, 51, 503, 504, 505, 506, 507, 512, 458, 509, 511, 513, 514, 515] (by decide +kernel) (by decide +kernel) w h).1
set_option maxRecDepth 20000 in
theorem wsLin_r21 : ∀ w ∈ wsL_law_r21, w ∈ lw_tbl := fun w h => (goodIn_r (big := lw_tbl) wsL_law_r21 [516, 517, 518, 519, 520, 522, 10, 523, 524, 525, 526, 527, 532, 533, 535, 11, 536, 537, 539, 12, 540, 905, 906, 907] (by decide +kernel) (by decide +kernel) w h).1
set_option maxRecDepth 20000 in
theorem wsLin_r22 : ∀ w ∈ wsL_law_r22, w ∈ lw_tbl := fun w h => (goodIn_r (big := lw_tbl) wsL_law_r22 [908, 909, 910, 912, 28, 913, 914, 916, 29, 917, 918, 920, 30, 921, 922, 924, 31, 925, 926, 927, 928, 929, 931, 32] (by decide +kernel) (by decide +kernel) w h).1
set_option maxRecDepth 20000 in
theorem wsLin_r23 : ∀ w ∈ wsL_law_r23, w ∈ lw_tbl := fun w h => (goodIn_r (big := lw_tbl) wsL_law_r23 [932, 541, 542, 543, 544, 266, 545, 547, 13, 548, 549, 550, 551, 552, 933, 934, 935, 936, 937, 939, 33, 940, 553, 554] (by decide +kernel) (by decide +kernel) w h).1
set_option maxRecDepth 20000 in
theorem wsLin_r24 : ∀ w ∈ wsL_law_r24, w ∈ lw_tbl := fun w h => (goodIn_r (big := lw_tbl) wsL_law_r24 [555, 556, 557, 558, 559, 560, 561, 563, 565, 14, 566, 567, 569, 15, 570, 571, 572, 573, 574, 576, 578, 579, 580, 581] (by decide +kernel) (by decide +kernel) w h).1
set_option maxRecDepth 20000 in
theorem wsLin_r25 : ∀ w ∈ wsL_law_r25, w ∈ lw_tbl := fun w h => (goodIn_r (big := lw_tbl) wsL_law_r25 [582, 583, 585, 16, 586, 941, 942, 943, 944, 945, 946, 948, 34, 949, 587, 588, 589, 590, 274, 600, 601, 55, 591, 592] (by decide +kernel) (by decide +kernel) w h).1
set_option maxRecDepth 20000 in
theorem wsLin_r26 : ∀ w ∈ wsL_law_r26, w ∈ lw_tbl := fun w h => (goodIn_r (big := lw_tbl) wsL_law_r26 [593, 594, 595, 596, 597, 598, 599, 609, 602, 603, 604, 605, 606, 608, 950, 951, 952, 953, 744, 616, 617, 618, 619, 620] (by decide +kernel) (by decide +kernel) w h).1
set_option maxRecDepth 20000 in
theorem wsLin_r27 : ∀ w ∈ wsL_law_r27, w ∈ lw_tbl := fun w h => (goodIn_r (big := lw_tbl) wsL_law_r27 [622, 17, 623, 607, 610, 624, 625, 626, 627, 628, 629, 631, 18, 632, 633, 634, 636, 19, 637, 954, 955, 956, 957, 958] (by decide +kernel) (by decide +kernel) w h).1
set_option maxRecDepth 20000 in
theorem wsLin_r28 : ∀ w ∈ wsL_law_r28, w ∈ lw_tbl := fun w h => (goodIn_r (big := lw_tbl) wsL_law_r28 [960, 35, 961, 962, 964, 36, 965, 966, 967, 968, 638, 639, 640, 641, 642, 643, 644, 645, 646, 969, 970, 971, 972, 647] (by decide +kernel) (by decide +kernel) w h).1
set_option maxRecDepth 20000 in
theorem wsLin_r29 : ∀ w ∈ wsL_law_r29, w ∈ lw_tbl := fun w h => (goodIn_r (big := lw_tbl) wsL_law_r29 [648, 649, 650, 290, 292, 973, 974, 975, 976, 651, 652, 653, 654, 977, 978, 979, 980, 655, 656, 657, 658, 981, 982, 983] (by decide +kernel) (by decide +kernel) w h).1
set_option maxRecDepth 20000 in
theorem wsLin_r30 : ∀ w ∈ wsL_law_r30, w ∈ lw_tbl := fun w h => (goodIn_r (big := lw_tbl) wsL_law_r30 [984, 659, 660, 661, 662, 663, 665, 20, 666, 667, 669, 21, 670, 671, 672, 673, 674, 985, 986, 987, 988, 721, 989, 991] (by decide +kernel) (by decide +kernel) w h).1
set_option maxRecDepth 20000 in
theorem wsLin_r31 : ∀ w ∈ wsL_law_r31, w ∈ lw_tbl := fun w h => (goodIn_r (big := lw_tbl) wsL_law_r31 [37, 992, 675, 676, 677, 678, 993, 994, 995, 996, 679, 680, 681, 682, 997, 998, 999, 1000, 683, 684, 685, 686, 687, 688] (by decide +kernel) (by decide +kernel) w h).1
set_option maxRecDepth 20000 in
theorem wsLin_r32 : ∀ w ∈ wsL_law_r32, w ∈ lw_tbl := fun w h => (goodIn_r (big := lw_tbl) wsL_law_r32 [689, 690, 1001, 1002, 1003, 1004, 1005, 1007, 38, 1008, 691, 692, 693, 694, 1009, 1010, 1011, 1012, 695, 696, 697, 698, 1013, 1014] (by decide +kernel) (by decide +kernel) w h).1
set_option maxRecDepth 20000 in
theorem wsLin_r33 : ∀ w ∈ wsL_law_r33, w ∈ lw_tbl := fun w h => (goodIn_r (big := lw_tbl) wsL_law_r33 [1015, 1016, 699, 700, 701, 702, 703, 704, 705, 706, 707, 708, 709, 710, 711, 712, 1017, 1018, 1019, 1020, 1021, 1022] (by decide +kernel) (by decide +kernel) w h).1
set_option maxRecDepth 20000 in
theorem wsLin_X50 : ∀ w ∈ wsX50, w ∈ lw_tbl := by decide +kernel
set_option maxRecDepth 20000 in
theorem wsLin_X60 : ∀ w ∈ wsX60, w ∈ lw_tbl := by decide +kernel
set_option maxRecDepth 20000 in
theorem wsLin_X20 : ∀ w ∈ wsX20, w ∈ lw_tbl := by decide +kernel
set_option maxRecDepth 20000 in
theorem wsLin_X10 : ∀ w ∈ wsX10, w ∈ lw_tbl := by decide +kernel
set_option maxRecDepth 20000 in
theorem wsLin_Jx4a65c0 : ∀ w ∈ wsJx4a65c0, w ∈ lw_tbl := by decide +kernel
set_option maxRecDepth 20000 in
theorem wsLin_X30 : ∀ w ∈ wsX30, w ∈ lw_tbl := by decide +kernel
set_option maxRecDepth 20000 in
theorem wsLin_X00 : ∀ w ∈ wsX00, w ∈ lw_tbl := by decide +kernel
set_option maxRecDepth 20000 in
theorem wsLin_X40 : ∀ w ∈ wsX40, w ∈ lw_tbl := by decide +kernel
theorem wsL_law_in : ∀ w ∈ wsL_law, w ∈ lw_tbl := by
  unfold wsL_law
  exact (List.forall_mem_append.mpr ⟨(List.forall_mem_append.mpr ⟨(List.forall_mem_append.mpr ⟨(List.forall_mem_append.mpr ⟨(List.forall_mem_append.mpr ⟨(List.forall_mem_append.mpr ⟨(List.forall_mem_append.mpr ⟨(List.forall_mem_append.mpr ⟨(List.forall_mem_append.mpr ⟨(List.forall_mem_append.mpr ⟨wsLin_r1, (List.forall_mem_append.mpr ⟨wsLin_r2, (List.forall_mem_append.mpr ⟨wsLin_r3, (List.forall_mem_append.mpr ⟨wsLin_r4, (List.forall_mem_append.mpr ⟨wsLin_r5, (List.forall_mem_append.mpr ⟨wsLin_r6, (List.forall_mem_append.mpr ⟨wsLin_r7, (List.forall_mem_append.mpr ⟨wsLin_r8, (List.forall_mem_append.mpr ⟨wsLin_r9, (List.forall_mem_append.mpr ⟨wsLin_r10, (List.forall_mem_append.mpr ⟨wsLin_r11, (List.forall_mem_append.mpr ⟨wsLin_r12, (List.forall_mem_append.mpr ⟨wsLin_r13, (List.forall_mem_append.mpr ⟨wsLin_r14, (List.forall_mem_append.mpr ⟨wsLin_r15, (List.forall_mem_append.mpr ⟨wsLin_r16, (List.forall_mem_append.mpr ⟨wsLin_r17, (List.forall_mem_append.mpr ⟨wsLin_r18, (List.forall_mem_append.mpr ⟨wsLin_r19, (List.forall_mem_append.mpr ⟨wsLin_r20, (List.forall_mem_append.mpr ⟨wsLin_r21, (List.forall_mem_append.mpr ⟨wsLin_r22, (List.forall_mem_append.mpr ⟨wsLin_r23, (List.forall_mem_append.mpr ⟨wsLin_r24, (List.forall_mem_append.mpr ⟨wsLin_r25, (List.forall_mem_append.mpr ⟨wsLin_r26, (List.forall_mem_append.mpr ⟨wsLin_r27, (List.forall_mem_append.mpr ⟨wsLin_r28, (List.forall_mem_append.mpr ⟨wsLin_r29, (List.forall_mem_append.mpr ⟨wsLin_r30, (List.forall_mem_append.mpr ⟨wsLin_r31, (List.forall_mem_append.mpr ⟨wsLin_r32, wsLin_r33⟩)⟩)⟩)⟩)⟩)⟩)⟩)⟩)⟩)⟩)⟩)⟩)⟩)⟩)⟩)⟩)⟩)⟩)⟩)⟩)⟩)⟩)⟩)⟩)⟩)⟩)⟩)⟩)⟩)⟩)⟩)⟩), wsLin_X50⟩), wsLin_X60⟩), wsLin_X20⟩), wsLin_X10⟩), wsLin_Jx4a65c0⟩), wsLin_X30⟩), wsLin_X00⟩), wsLin_X40⟩), (fun _ h => absurd h List.not_mem_nil)⟩)
theorem inlX0 : ∀ w ∈ wsX00, w ∈ wsL_law := fun _ h => List.mem_append_left _ (List.mem_append_left _ (List.mem_append_right _ h))
theorem inX0 : ∀ w ∈ wsX00, w ∈ lw_tbl := fun w h => wsL_law_in w (inlX0 w h)
theorem inlX1 : ∀ w ∈ wsX10, w ∈ wsL_law := fun _ h => List.mem_append_left _ (List.mem_append_left _ (List.mem_append_left _ (List.mem_append_left _ (List.mem_append_left _ (List.mem_append_right _ h)))))
theorem inX1 : ∀ w ∈ wsX10, w ∈ lw_tbl := fun w h => wsL_law_in w (inlX1 w h)
theorem inlX2 : ∀ w ∈ wsX20, w ∈ wsL_law := fun _ h => List.mem_append_left _ (List.mem_append_left _ (List.mem_append_left _ (List.mem_append_left _ (List.mem_append_left _ (List.mem_append_left _ (List.mem_append_right _ h))))))
theorem inX2 : ∀ w ∈ wsX20, w ∈ lw_tbl := fun w h => wsL_law_in w (inlX2 w h)
theorem inlX3 : ∀ w ∈ wsX30, w ∈ wsL_law := fun _ h => List.mem_append_left _ (List.mem_append_left _ (List.mem_append_left _ (List.mem_append_right _ h)))
theorem inX3 : ∀ w ∈ wsX30, w ∈ lw_tbl := fun w h => wsL_law_in w (inlX3 w h)
theorem inlX4 : ∀ w ∈ wsX40, w ∈ wsL_law := fun _ h => List.mem_append_left _ (List.mem_append_right _ h)
theorem inX4 : ∀ w ∈ wsX40, w ∈ lw_tbl := fun w h => wsL_law_in w (inlX4 w h)
theorem inlX5 : ∀ w ∈ wsX50, w ∈ wsL_law := fun _ h => List.mem_append_left _ (List.mem_append_left _ (List.mem_append_left _ (List.mem_append_left _ (List.mem_append_left _ (List.mem_append_left _ (List.mem_append_left _ (List.mem_append_left _ (List.mem_append_right _ h))))))))
theorem inX5 : ∀ w ∈ wsX50, w ∈ lw_tbl := fun w h => wsL_law_in w (inlX5 w h)
theorem inlX6 : ∀ w ∈ wsX60, w ∈ wsL_law := fun _ h => List.mem_append_left _ (List.mem_append_left _ (List.mem_append_left _ (List.mem_append_left _ (List.mem_append_left _ (List.mem_append_left _ (List.mem_append_left _ (List.mem_append_right _ h)))))))
theorem inX6 : ∀ w ∈ wsX60, w ∈ lw_tbl := fun w h => wsL_law_in w (inlX6 w h)
theorem inJx145de : ∀ w ∈ wsJx145de0, w ∈ lw_tbl := by decide +kernel
theorem inJx8e188 : ∀ w ∈ wsJx8e1880, w ∈ lw_tbl := by decide +kernel
theorem inJxab1ab : ∀ w ∈ wsJxab1ab0, w ∈ lw_tbl := by decide +kernel
theorem inJ9 : ∀ w ∈ wsJ90, w ∈ lw_tbl := by decide +kernel
theorem inJ10 : ∀ w ∈ wsJ100, w ∈ lw_tbl := by decide +kernel
theorem inJxa1e45 : ∀ w ∈ wsJxa1e450, w ∈ lw_tbl := by decide +kernel
theorem inJxc12de : ∀ w ∈ wsJxc12de0, w ∈ lw_tbl := by decide +kernel
theorem inlJx4a65c : ∀ w ∈ wsJx4a65c0, w ∈ wsL_law := fun _ h => List.mem_append_left _ (List.mem_append_left _ (List.mem_append_left _ (List.mem_append_left _ (List.mem_append_right _ h))))
theorem inJx4a65c : ∀ w ∈ wsJx4a65c0, w ∈ lw_tbl := fun w h => wsL_law_in w (inlJx4a65c w h)
theorem inJ7 : ∀ w ∈ wsJ70, w ∈ lw_tbl := by decide +kernel
theorem inJx5ef63 : ∀ w ∈ wsJx5ef630, w ∈ lw_tbl := by decide +kernel
theorem inJxbd725 : ∀ w ∈ wsJxbd7250, w ∈ lw_tbl := by decide +kernel
theorem inJ15 : ∀ w ∈ wsJ150, w ∈ lw_tbl := by decide +kernel
theorem inJxf0a74 : ∀ w ∈ wsJxf0a740, w ∈ lw_tbl := by decide +kernel
theorem inJxa66e6 : ∀ w ∈ wsJxa66e60, w ∈ lw_tbl := by decide +kernel
theorem inJ8 : ∀ w ∈ wsJ80, w ∈ lw_tbl := by decide +kernel
theorem inJ3 : ∀ w ∈ wsJ30, w ∈ lw_tbl := by decide +kernel
theorem dX0_init_0 : decode cX0_init 0 = .ok (.aload_n 0, 1) := by decide +kernel
theorem dX0_init_1 : decode cX0_init 1 = .ok (.invokespecial 3, 3) := by decide +kernel
theorem dX0_init_4 : decode cX0_init 4 = .ok (.aload_n 0, 1) := by decide +kernel
theorem dX0_init_5 : decode cX0_init 5 = .ok (.iload_n 1, 1) := by decide +kernel
theorem dX0_init_6 : decode cX0_init 6 = .ok (.putfield 9, 3) := by decide +kernel
theorem dX0_init_9 : decode cX0_init 9 = .ok (.aload_n 0, 1) := by decide +kernel
theorem dX0_init_10 : decode cX0_init 10 = .ok (.iload_n 2, 1) := by decide +kernel
theorem dX0_init_11 : decode cX0_init 11 = .ok (.putfield 15, 3) := by decide +kernel
theorem dX0_init_14 : decode cX0_init 14 = .ok (.aload_n 0, 1) := by decide +kernel
theorem dX0_init_15 : decode cX0_init 15 = .ok (.iload_n 3, 1) := by decide +kernel
theorem dX0_init_16 : decode cX0_init 16 = .ok (.putfield 18, 3) := by decide +kernel
theorem dX0_init_19 : decode cX0_init 19 = .ok (.aload_n 0, 1) := by decide +kernel
theorem dX0_init_20 : decode cX0_init 20 = .ok (.iload 4, 2) := by decide +kernel
theorem dX0_init_22 : decode cX0_init 22 = .ok (.putfield 21, 3) := by decide +kernel
theorem dX0_init_25 : decode cX0_init 25 = .ok (.aload_n 0, 1) := by decide +kernel
theorem dX0_init_26 : decode cX0_init 26 = .ok (.iload 5, 2) := by decide +kernel
theorem dX0_init_28 : decode cX0_init 28 = .ok (.putfield 24, 3) := by decide +kernel
theorem dX0_init_31 : decode cX0_init 31 = .ok (.aload_n 0, 1) := by decide +kernel
theorem dX0_init_32 : decode cX0_init 32 = .ok (.iload 6, 2) := by decide +kernel
theorem dX0_init_34 : decode cX0_init 34 = .ok (.putfield 27, 3) := by decide +kernel
theorem dX0_init_37 : decode cX0_init 37 = .ok (.return_, 1) := by decide +kernel
theorem dX0_fits_0 : decode cX0_fits 0 = .ok (.iload_n 1, 1) := by decide +kernel
theorem dX0_fits_1 : decode cX0_fits 1 = .ok (.bipush 16, 2) := by decide +kernel
theorem dX0_fits_3 : decode cX0_fits 3 = .ok (.irem, 1) := by decide +kernel
theorem dX0_fits_4 : decode cX0_fits 4 = .ok (.istore_n 3, 1) := by decide +kernel
theorem dX0_fits_5 : decode cX0_fits 5 = .ok (.iload_n 1, 1) := by decide +kernel
theorem dX0_fits_6 : decode cX0_fits 6 = .ok (.bipush 16, 2) := by decide +kernel
theorem dX0_fits_8 : decode cX0_fits 8 = .ok (.idiv, 1) := by decide +kernel
theorem dX0_fits_9 : decode cX0_fits 9 = .ok (.istore 4, 2) := by decide +kernel
theorem dX0_fits_11 : decode cX0_fits 11 = .ok (.iload_n 3, 1) := by decide +kernel
theorem dX0_fits_12 : decode cX0_fits 12 = .ok (.aload_n 0, 1) := by decide +kernel
theorem dX0_fits_13 : decode cX0_fits 13 = .ok (.getfield 9, 3) := by decide +kernel
theorem dX0_fits_16 : decode cX0_fits 16 = .ok (.if_icmp .lt 41, 3) := by decide +kernel
theorem dX0_fits_19 : decode cX0_fits 19 = .ok (.iload_n 3, 1) := by decide +kernel
theorem dX0_fits_20 : decode cX0_fits 20 = .ok (.aload_n 0, 1) := by decide +kernel
theorem dX0_fits_21 : decode cX0_fits 21 = .ok (.getfield 15, 3) := by decide +kernel
theorem dX0_fits_24 : decode cX0_fits 24 = .ok (.if_icmp .gt 33, 3) := by decide +kernel
theorem dX0_fits_27 : decode cX0_fits 27 = .ok (.iload 4, 2) := by decide +kernel
theorem dX0_fits_29 : decode cX0_fits 29 = .ok (.aload_n 0, 1) := by decide +kernel
theorem dX0_fits_30 : decode cX0_fits 30 = .ok (.getfield 18, 3) := by decide +kernel
theorem dX0_fits_33 : decode cX0_fits 33 = .ok (.if_icmp .lt 24, 3) := by decide +kernel
theorem dX0_fits_36 : decode cX0_fits 36 = .ok (.iload 4, 2) := by decide +kernel
theorem dX0_fits_38 : decode cX0_fits 38 = .ok (.aload_n 0, 1) := by decide +kernel
theorem dX0_fits_39 : decode cX0_fits 39 = .ok (.getfield 21, 3) := by decide +kernel
theorem dX0_fits_42 : decode cX0_fits 42 = .ok (.if_icmp .gt 15, 3) := by decide +kernel
theorem dX0_fits_45 : decode cX0_fits 45 = .ok (.iload_n 2, 1) := by decide +kernel
theorem dX0_fits_46 : decode cX0_fits 46 = .ok (.aload_n 0, 1) := by decide +kernel
theorem dX0_fits_47 : decode cX0_fits 47 = .ok (.getfield 24, 3) := by decide +kernel
theorem dX0_fits_50 : decode cX0_fits 50 = .ok (.if_icmp .lt 7, 3) := by decide +kernel
theorem dX0_fits_53 : decode cX0_fits 53 = .ok (.iconst 1, 1) := by decide +kernel
theorem dX0_fits_54 : decode cX0_fits 54 = .ok (.goto 4, 3) := by decide +kernel
theorem dX0_fits_57 : decode cX0_fits 57 = .ok (.iconst 0, 1) := by decide +kernel
theorem dX0_fits_58 : decode cX0_fits 58 = .ok (.ireturn, 1) := by decide +kernel
theorem dX1_init_0 : decode cX1_init 0 = .ok (.aload_n 0, 1) := by decide +kernel
theorem dX1_init_1 : decode cX1_init 1 = .ok (.invokespecial 3, 3) := by decide +kernel
theorem dX1_init_4 : decode cX1_init 4 = .ok (.aload_n 0, 1) := by decide +kernel
theorem dX1_init_5 : decode cX1_init 5 = .ok (.sipush 160, 3) := by decide +kernel
theorem dX1_init_8 : decode cX1_init 8 = .ok (.newarray .int, 2) := by decide +kernel
theorem dX1_init_10 : decode cX1_init 10 = .ok (.putfield 9, 3) := by decide +kernel
theorem dX1_init_13 : decode cX1_init 13 = .ok (.aload_n 0, 1) := by decide +kernel
theorem dX1_init_14 : decode cX1_init 14 = .ok (.sipush 160, 3) := by decide +kernel
theorem dX1_init_17 : decode cX1_init 17 = .ok (.newarray .boolean, 2) := by decide +kernel
theorem dX1_init_19 : decode cX1_init 19 = .ok (.putfield 15, 3) := by decide +kernel
theorem dX1_init_22 : decode cX1_init 22 = .ok (.return_, 1) := by decide +kernel
set_option maxRecDepth 20000 in
theorem ggX1_leastHours_X5_outside : GoodIn wsX1_leastHours wsX5_outside := goodIn_r _ [5] (by decide +kernel) (by decide +kernel)
set_option maxRecDepth 20000 in
theorem gX1_leastHours_X5_outside_n19 : GoodIn wsX1_leastHours (wsX5_outside) := ggX1_leastHours_X5_outside
set_option maxRecDepth 20000 in
theorem ggX1_leastHours_X1_earliestCell : GoodIn wsX1_leastHours wsX1_earliestCell := goodIn_r _ [10, 2, 1, 79, 80] (by decide +kernel) (by decide +kernel)
set_option maxRecDepth 20000 in
theorem gX1_leastHours_X1_earliestCell : GoodIn wsX1_leastHours (wsV RX1 23 RX1 yX1_earliestCell wsX1_earliestCell) := goodIn_app (goodIn_of _ (by decide +kernel)) ggX1_leastHours_X1_earliestCell
set_option maxRecDepth 20000 in
theorem ggX1_leastHours_X1_leave : GoodIn wsX1_leastHours wsX1_leave := goodIn_r _ [14, 2, 1, 3, 4, 5, 15, 16, 17, 18, 19, 20, 21, 22, 23, 24, 25, 26, 9, 27, 28, 29, 30, 31, 32, 33, 34, 35, 36, 37, 38, 39, 40, 41, 42, 43, 44, 45, 46, 47, 48, 49, 50, 51, 52, 53, 54, 55, 56, 57, 58, 59, 60, 61, 62, 63, 64, 65, 66, 67, 68, 69, 70, 71, 72, 73, 74, 75, 76, 77, 78, 79, 80, 81, 82, 83, 84, 85, 86, 87, 88, 89, 90, 91, 92, 93, 94, 95, 96, 97] (by decide +kernel) (by decide +kernel)
set_option maxRecDepth 20000 in
theorem gX1_leastHours_X1_leave : GoodIn wsX1_leastHours (wsV RX1 27 RX1 yX1_leave wsX1_leave) := goodIn_app (goodIn_of _ (by decide +kernel)) ggX1_leastHours_X1_leave
theorem dX1_leastHours_0 : decode cX1_leastHours 0 = .ok (.iload_n 3, 1) := by decide +kernel
theorem dX1_leastHours_1 : decode cX1_leastHours 1 = .ok (.sipush 159, 3) := by decide +kernel
theorem dX1_leastHours_4 : decode cX1_leastHours 4 = .ok (.invokestatic 19, 3) := by decide +kernel
theorem dX1_leastHours_7 : decode cX1_leastHours 7 = .ok (.ifCond .ne 14, 3) := by decide +kernel
theorem dX1_leastHours_10 : decode cX1_leastHours 10 = .ok (.iload 4, 2) := by decide +kernel
theorem dX1_leastHours_12 : decode cX1_leastHours 12 = .ok (.sipush 159, 3) := by decide +kernel
theorem dX1_leastHours_15 : decode cX1_leastHours 15 = .ok (.invokestatic 19, 3) := by decide +kernel
theorem dX1_leastHours_18 : decode cX1_leastHours 18 = .ok (.ifCond .eq 6, 3) := by decide +kernel
theorem dX1_leastHours_21 : decode cX1_leastHours 21 = .ok (.bipush (-9), 2) := by decide +kernel
theorem dX1_leastHours_23 : decode cX1_leastHours 23 = .ok (.ireturn, 1) := by decide +kernel
theorem dX1_leastHours_24 : decode cX1_leastHours 24 = .ok (.iconst 0, 1) := by decide +kernel
theorem dX1_leastHours_25 : decode cX1_leastHours 25 = .ok (.istore 6, 2) := by decide +kernel
theorem dX1_leastHours_27 : decode cX1_leastHours 27 = .ok (.iload 6, 2) := by decide +kernel
theorem dX1_leastHours_29 : decode cX1_leastHours 29 = .ok (.sipush 160, 3) := by decide +kernel
theorem dX1_leastHours_32 : decode cX1_leastHours 32 = .ok (.if_icmp .ge 37, 3) := by decide +kernel
theorem dX1_leastHours_35 : decode cX1_leastHours 35 = .ok (.aload_n 0, 1) := by decide +kernel
theorem dX1_leastHours_36 : decode cX1_leastHours 36 = .ok (.getfield 9, 3) := by decide +kernel
theorem dX1_leastHours_39 : decode cX1_leastHours 39 = .ok (.iload 6, 2) := by decide +kernel
theorem dX1_leastHours_41 : decode cX1_leastHours 41 = .ok (.iload 6, 2) := by decide +kernel
theorem dX1_leastHours_43 : decode cX1_leastHours 43 = .ok (.iload_n 3, 1) := by decide +kernel
theorem dX1_leastHours_44 : decode cX1_leastHours 44 = .ok (.if_icmp .ne 7, 3) := by decide +kernel
theorem dX1_leastHours_47 : decode cX1_leastHours 47 = .ok (.iconst 0, 1) := by decide +kernel
theorem dX1_leastHours_48 : decode cX1_leastHours 48 = .ok (.goto 6, 3) := by decide +kernel
theorem dX1_leastHours_51 : decode cX1_leastHours 51 = .ok (.sipush 2001, 3) := by decide +kernel
theorem dX1_leastHours_54 : decode cX1_leastHours 54 = .ok (.iastore, 1) := by decide +kernel
theorem dX1_leastHours_55 : decode cX1_leastHours 55 = .ok (.aload_n 0, 1) := by decide +kernel
theorem dX1_leastHours_56 : decode cX1_leastHours 56 = .ok (.getfield 15, 3) := by decide +kernel
theorem dX1_leastHours_59 : decode cX1_leastHours 59 = .ok (.iload 6, 2) := by decide +kernel
theorem dX1_leastHours_61 : decode cX1_leastHours 61 = .ok (.iconst 0, 1) := by decide +kernel
theorem dX1_leastHours_62 : decode cX1_leastHours 62 = .ok (.bastore, 1) := by decide +kernel
theorem dX1_leastHours_63 : decode cX1_leastHours 63 = .ok (.iinc 6 1, 3) := by decide +kernel
theorem dX1_leastHours_66 : decode cX1_leastHours 66 = .ok (.goto (-39), 3) := by decide +kernel
theorem dX1_leastHours_69 : decode cX1_leastHours 69 = .ok (.iconst 0, 1) := by decide +kernel
theorem dX1_leastHours_70 : decode cX1_leastHours 70 = .ok (.istore 6, 2) := by decide +kernel
theorem dX1_leastHours_72 : decode cX1_leastHours 72 = .ok (.iload 6, 2) := by decide +kernel
theorem dX1_leastHours_74 : decode cX1_leastHours 74 = .ok (.sipush 160, 3) := by decide +kernel
theorem dX1_leastHours_77 : decode cX1_leastHours 77 = .ok (.if_icmp .ge 42, 3) := by decide +kernel
theorem dX1_leastHours_80 : decode cX1_leastHours 80 = .ok (.aload_n 0, 1) := by decide +kernel
theorem dX1_leastHours_81 : decode cX1_leastHours 81 = .ok (.invokevirtual 23, 3) := by decide +kernel
theorem dX1_leastHours_84 : decode cX1_leastHours 84 = .ok (.istore 7, 2) := by decide +kernel
theorem dX1_leastHours_86 : decode cX1_leastHours 86 = .ok (.iload 7, 2) := by decide +kernel
theorem dX1_leastHours_88 : decode cX1_leastHours 88 = .ok (.bipush (-9), 2) := by decide +kernel
theorem dX1_leastHours_90 : decode cX1_leastHours 90 = .ok (.if_icmp .eq 29, 3) := by decide +kernel
theorem dX1_leastHours_93 : decode cX1_leastHours 93 = .ok (.iload 7, 2) := by decide +kernel
theorem dX1_leastHours_95 : decode cX1_leastHours 95 = .ok (.iload 4, 2) := by decide +kernel
theorem dX1_leastHours_97 : decode cX1_leastHours 97 = .ok (.if_icmp .ne 6, 3) := by decide +kernel
theorem dX1_leastHours_100 : decode cX1_leastHours 100 = .ok (.goto 19, 3) := by decide +kernel
theorem dX1_leastHours_103 : decode cX1_leastHours 103 = .ok (.aload_n 0, 1) := by decide +kernel
theorem dX1_leastHours_104 : decode cX1_leastHours 104 = .ok (.aload_n 1, 1) := by decide +kernel
theorem dX1_leastHours_105 : decode cX1_leastHours 105 = .ok (.aload_n 2, 1) := by decide +kernel
theorem dX1_leastHours_106 : decode cX1_leastHours 106 = .ok (.iload 7, 2) := by decide +kernel
theorem dX1_leastHours_108 : decode cX1_leastHours 108 = .ok (.iload 5, 2) := by decide +kernel
theorem dX1_leastHours_110 : decode cX1_leastHours 110 = .ok (.invokevirtual 27, 3) := by decide +kernel
theorem dX1_leastHours_113 : decode cX1_leastHours 113 = .ok (.iinc 6 1, 3) := by decide +kernel
theorem dX1_leastHours_116 : decode cX1_leastHours 116 = .ok (.goto (-44), 3) := by decide +kernel
theorem dX1_leastHours_119 : decode cX1_leastHours 119 = .ok (.aload_n 0, 1) := by decide +kernel
theorem dX1_leastHours_120 : decode cX1_leastHours 120 = .ok (.getfield 9, 3) := by decide +kernel
theorem dX1_leastHours_123 : decode cX1_leastHours 123 = .ok (.iload 4, 2) := by decide +kernel
theorem dX1_leastHours_125 : decode cX1_leastHours 125 = .ok (.iaload, 1) := by decide +kernel
theorem dX1_leastHours_126 : decode cX1_leastHours 126 = .ok (.sipush 2001, 3) := by decide +kernel
theorem dX1_leastHours_129 : decode cX1_leastHours 129 = .ok (.if_icmp .ne 8, 3) := by decide +kernel
theorem dX1_leastHours_132 : decode cX1_leastHours 132 = .ok (.bipush (-9), 2) := by decide +kernel
theorem dX1_leastHours_134 : decode cX1_leastHours 134 = .ok (.goto 10, 3) := by decide +kernel
theorem dX1_leastHours_137 : decode cX1_leastHours 137 = .ok (.aload_n 0, 1) := by decide +kernel
theorem dX1_leastHours_138 : decode cX1_leastHours 138 = .ok (.getfield 9, 3) := by decide +kernel
theorem dX1_leastHours_141 : decode cX1_leastHours 141 = .ok (.iload 4, 2) := by decide +kernel
theorem dX1_leastHours_143 : decode cX1_leastHours 143 = .ok (.iaload, 1) := by decide +kernel
theorem dX1_leastHours_144 : decode cX1_leastHours 144 = .ok (.ireturn, 1) := by decide +kernel
set_option maxRecDepth 20000 in
theorem ggX1_leave_X5_outside : GoodIn wsX1_leave wsX5_outside := goodIn_r _ [5] (by decide +kernel) (by decide +kernel)
set_option maxRecDepth 20000 in
theorem gX1_leave_X5_outside_n19 : GoodIn wsX1_leave (wsX5_outside) := ggX1_leave_X5_outside
set_option maxRecDepth 20000 in
theorem ggX1_leave_X2_nextCell : GoodIn wsX1_leave wsX2_nextCell := goodIn_r _ [10, 3, 4, 5, 11, 12, 13, 9, 14, 15, 73, 74, 75] (by decide +kernel) (by decide +kernel)
set_option maxRecDepth 20000 in
theorem gX1_leave_X2_nextCell : GoodIn wsX1_leave (wsV RX1 31 RX2 yX2_nextCell wsX2_nextCell) := goodIn_app (goodIn_of _ (by decide +kernel)) ggX1_leave_X2_nextCell
set_option maxRecDepth 20000 in
theorem ggX1_leave_X1_comingHour : GoodIn wsX1_leave wsX1_comingHour := goodIn_r _ [19, 20, 21, 22, 23, 24, 4, 25, 26, 27, 28, 29, 30, 31, 32, 33, 34, 9, 35, 36, 37, 3, 5, 38, 39, 40, 41, 42, 43, 44, 45, 46, 47, 48, 49, 50, 51, 52, 53, 54, 55, 56, 57, 58, 59, 60, 61, 62, 63, 64, 65, 18, 66, 73, 74, 75, 76, 77, 78, 79, 80, 81, 82, 83, 84, 85, 86, 87, 88, 89] (by decide +kernel) (by decide +kernel)
set_option maxRecDepth 20000 in
theorem gX1_leave_X1_comingHour : GoodIn wsX1_leave (va_wsS RX1 37 yX1_comingHour wsX1_comingHour) := goodIn_app (goodIn_of _ (by decide +kernel)) ggX1_leave_X1_comingHour
set_option maxRecDepth 20000 in
theorem ggX1_leave_X1_reach : GoodIn wsX1_leave wsX1_reach := goodIn_r _ [70, 2, 3, 4, 5, 71, 72] (by decide +kernel) (by decide +kernel)
set_option maxRecDepth 20000 in
theorem gX1_leave_X1_reach : GoodIn wsX1_leave (wsV RX1 41 RX1 yX1_reach wsX1_reach) := goodIn_app (goodIn_of _ (by decide +kernel)) ggX1_leave_X1_reach
theorem dX1_leave_0 : decode cX1_leave 0 = .ok (.iload_n 3, 1) := by decide +kernel
theorem dX1_leave_1 : decode cX1_leave 1 = .ok (.sipush 159, 3) := by decide +kernel
theorem dX1_leave_4 : decode cX1_leave 4 = .ok (.invokestatic 19, 3) := by decide +kernel
theorem dX1_leave_7 : decode cX1_leave 7 = .ok (.ifCond .eq 4, 3) := by decide +kernel
theorem dX1_leave_10 : decode cX1_leave 10 = .ok (.return_, 1) := by decide +kernel
theorem dX1_leave_11 : decode cX1_leave 11 = .ok (.aload_n 0, 1) := by decide +kernel
theorem dX1_leave_12 : decode cX1_leave 12 = .ok (.getfield 15, 3) := by decide +kernel
theorem dX1_leave_15 : decode cX1_leave 15 = .ok (.iload_n 3, 1) := by decide +kernel
theorem dX1_leave_16 : decode cX1_leave 16 = .ok (.iconst 1, 1) := by decide +kernel
theorem dX1_leave_17 : decode cX1_leave 17 = .ok (.bastore, 1) := by decide +kernel
theorem dX1_leave_18 : decode cX1_leave 18 = .ok (.iconst 0, 1) := by decide +kernel
theorem dX1_leave_19 : decode cX1_leave 19 = .ok (.istore 5, 2) := by decide +kernel
theorem dX1_leave_21 : decode cX1_leave 21 = .ok (.iload 5, 2) := by decide +kernel
theorem dX1_leave_23 : decode cX1_leave 23 = .ok (.bipush 8, 2) := by decide +kernel
theorem dX1_leave_25 : decode cX1_leave 25 = .ok (.if_icmp .ge 61, 3) := by decide +kernel
theorem dX1_leave_28 : decode cX1_leave 28 = .ok (.aload_n 1, 1) := by decide +kernel
theorem dX1_leave_29 : decode cX1_leave 29 = .ok (.iload_n 3, 1) := by decide +kernel
theorem dX1_leave_30 : decode cX1_leave 30 = .ok (.iload 5, 2) := by decide +kernel
theorem dX1_leave_32 : decode cX1_leave 32 = .ok (.invokevirtual 31, 3) := by decide +kernel
theorem dX1_leave_35 : decode cX1_leave 35 = .ok (.istore 6, 2) := by decide +kernel
theorem dX1_leave_37 : decode cX1_leave 37 = .ok (.iload 6, 2) := by decide +kernel
theorem dX1_leave_39 : decode cX1_leave 39 = .ok (.bipush (-9), 2) := by decide +kernel
theorem dX1_leave_41 : decode cX1_leave 41 = .ok (.if_icmp .eq 39, 3) := by decide +kernel
theorem dX1_leave_44 : decode cX1_leave 44 = .ok (.aload_n 1, 1) := by decide +kernel
theorem dX1_leave_45 : decode cX1_leave 45 = .ok (.aload_n 2, 1) := by decide +kernel
theorem dX1_leave_46 : decode cX1_leave 46 = .ok (.iload_n 3, 1) := by decide +kernel
theorem dX1_leave_47 : decode cX1_leave 47 = .ok (.iload 5, 2) := by decide +kernel
theorem dX1_leave_49 : decode cX1_leave 49 = .ok (.iload 4, 2) := by decide +kernel
theorem dX1_leave_51 : decode cX1_leave 51 = .ok (.aload_n 0, 1) := by decide +kernel
theorem dX1_leave_52 : decode cX1_leave 52 = .ok (.getfield 9, 3) := by decide +kernel
theorem dX1_leave_55 : decode cX1_leave 55 = .ok (.iload_n 3, 1) := by decide +kernel
theorem dX1_leave_56 : decode cX1_leave 56 = .ok (.iaload, 1) := by decide +kernel
theorem dX1_leave_57 : decode cX1_leave 57 = .ok (.iadd, 1) := by decide +kernel
theorem dX1_leave_58 : decode cX1_leave 58 = .ok (.iload 4, 2) := by decide +kernel
theorem dX1_leave_60 : decode cX1_leave 60 = .ok (.sipush 2000, 3) := by decide +kernel
theorem dX1_leave_63 : decode cX1_leave 63 = .ok (.iadd, 1) := by decide +kernel
theorem dX1_leave_64 : decode cX1_leave 64 = .ok (.invokestatic 37, 3) := by decide +kernel
theorem dX1_leave_67 : decode cX1_leave 67 = .ok (.istore 7, 2) := by decide +kernel
theorem dX1_leave_69 : decode cX1_leave 69 = .ok (.aload_n 0, 1) := by decide +kernel
theorem dX1_leave_70 : decode cX1_leave 70 = .ok (.iload 6, 2) := by decide +kernel
theorem dX1_leave_72 : decode cX1_leave 72 = .ok (.iload 7, 2) := by decide +kernel
theorem dX1_leave_74 : decode cX1_leave 74 = .ok (.iload 4, 2) := by decide +kernel
theorem dX1_leave_76 : decode cX1_leave 76 = .ok (.isub, 1) := by decide +kernel
theorem dX1_leave_77 : decode cX1_leave 77 = .ok (.invokevirtual 41, 3) := by decide +kernel
theorem dX1_leave_80 : decode cX1_leave 80 = .ok (.iinc 5 1, 3) := by decide +kernel
theorem dX1_leave_83 : decode cX1_leave 83 = .ok (.goto (-62), 3) := by decide +kernel
theorem dX1_leave_86 : decode cX1_leave 86 = .ok (.return_, 1) := by decide +kernel
set_option maxRecDepth 20000 in
theorem ggX1_comingHour_X5_needOf : GoodIn wsX1_comingHour wsX5_needOf := goodIn_r _ [7] (by decide +kernel) (by decide +kernel)
set_option maxRecDepth 20000 in
theorem gX1_comingHour_X5_needOf_n45 : GoodIn wsX1_comingHour (wsX5_needOf) := ggX1_comingHour_X5_needOf
set_option maxRecDepth 20000 in
theorem ggX1_comingHour_X5_monthOf : GoodIn wsX1_comingHour wsX5_monthOf := goodIn_r _ [9, 10, 11, 12, 13] (by decide +kernel) (by decide +kernel)
set_option maxRecDepth 20000 in
theorem gX1_comingHour_X5_monthOf_n54 : GoodIn wsX1_comingHour (wsX5_monthOf) := ggX1_comingHour_X5_monthOf
set_option maxRecDepth 20000 in
theorem ggX1_comingHour_X2_windIn : GoodIn wsX1_comingHour wsX2_windIn := goodIn_r _ [18, 19, 20, 21, 6, 22, 53, 54, 55] (by decide +kernel) (by decide +kernel)
set_option maxRecDepth 20000 in
theorem gX1_comingHour_X2_windIn : GoodIn wsX1_comingHour (wsV RX1 57 RX2 yX2_windIn wsX2_windIn) := goodIn_app (goodIn_of _ (by decide +kernel)) ggX1_comingHour_X2_windIn
set_option maxRecDepth 20000 in
theorem ggX1_comingHour_X3_speedIn : GoodIn wsX1_comingHour wsX3_speedIn := goodIn_r _ [27, 28, 29, 30, 2, 3, 4, 31, 6, 32, 33, 34, 35, 36, 37, 38, 39, 40, 41, 42, 43, 26, 44, 45, 46, 47, 48, 56, 57, 58, 59, 60, 61, 62, 63, 64, 65, 66, 67, 68, 69] (by decide +kernel) (by decide +kernel)
set_option maxRecDepth 20000 in
theorem gX1_comingHour_X3_speedIn : GoodIn wsX1_comingHour (wsV RX1 60 RX3 yX3_speedIn wsX3_speedIn) := goodIn_app (goodIn_of _ (by decide +kernel)) ggX1_comingHour_X3_speedIn
set_option maxRecDepth 20000 in
theorem ggX1_comingHour_X1_hoursFor : GoodIn wsX1_comingHour wsX1_hoursFor := goodIn_r _ [52] (by decide +kernel) (by decide +kernel)
set_option maxRecDepth 20000 in
theorem gX1_comingHour_X1_hoursFor : GoodIn wsX1_comingHour (va_wsS RX1 65 yX1_hoursFor wsX1_hoursFor) := goodIn_app (goodIn_of _ (by decide +kernel)) ggX1_comingHour_X1_hoursFor
theorem dX1_comingHour_0 : decode cX1_comingHour 0 = .ok (.iload_n 3, 1) := by decide +kernel
theorem dX1_comingHour_1 : decode cX1_comingHour 1 = .ok (.invokestatic 45, 3) := by decide +kernel
theorem dX1_comingHour_4 : decode cX1_comingHour 4 = .ok (.istore 6, 2) := by decide +kernel
theorem dX1_comingHour_6 : decode cX1_comingHour 6 = .ok (.iload 4, 2) := by decide +kernel
theorem dX1_comingHour_8 : decode cX1_comingHour 8 = .ok (.sipush 720, 3) := by decide +kernel
theorem dX1_comingHour_11 : decode cX1_comingHour 11 = .ok (.idiv, 1) := by decide +kernel
theorem dX1_comingHour_12 : decode cX1_comingHour 12 = .ok (.istore 7, 2) := by decide +kernel
theorem dX1_comingHour_14 : decode cX1_comingHour 14 = .ok (.iload 7, 2) := by decide +kernel
theorem dX1_comingHour_16 : decode cX1_comingHour 16 = .ok (.iload 5, 2) := by decide +kernel
theorem dX1_comingHour_18 : decode cX1_comingHour 18 = .ok (.sipush 720, 3) := by decide +kernel
theorem dX1_comingHour_21 : decode cX1_comingHour 21 = .ok (.idiv, 1) := by decide +kernel
theorem dX1_comingHour_22 : decode cX1_comingHour 22 = .ok (.if_icmp .gt 83, 3) := by decide +kernel
theorem dX1_comingHour_25 : decode cX1_comingHour 25 = .ok (.iload 4, 2) := by decide +kernel
theorem dX1_comingHour_27 : decode cX1_comingHour 27 = .ok (.iload 7, 2) := by decide +kernel
theorem dX1_comingHour_29 : decode cX1_comingHour 29 = .ok (.sipush 720, 3) := by decide +kernel
theorem dX1_comingHour_32 : decode cX1_comingHour 32 = .ok (.imul, 1) := by decide +kernel
theorem dX1_comingHour_33 : decode cX1_comingHour 33 = .ok (.invokestatic 49, 3) := by decide +kernel
theorem dX1_comingHour_36 : decode cX1_comingHour 36 = .ok (.istore 8, 2) := by decide +kernel
theorem dX1_comingHour_38 : decode cX1_comingHour 38 = .ok (.iload 7, 2) := by decide +kernel
theorem dX1_comingHour_40 : decode cX1_comingHour 40 = .ok (.iconst 1, 1) := by decide +kernel
theorem dX1_comingHour_41 : decode cX1_comingHour 41 = .ok (.iadd, 1) := by decide +kernel
theorem dX1_comingHour_42 : decode cX1_comingHour 42 = .ok (.sipush 720, 3) := by decide +kernel
theorem dX1_comingHour_45 : decode cX1_comingHour 45 = .ok (.imul, 1) := by decide +kernel
theorem dX1_comingHour_46 : decode cX1_comingHour 46 = .ok (.iload 8, 2) := by decide +kernel
end
section
theorem dX1_comingHour_48 : decode cX1_comingHour 48 = .ok (.isub, 1) := by decide +kernel
theorem dX1_comingHour_49 : decode cX1_comingHour 49 = .ok (.istore 9, 2) := by decide +kernel
theorem dX1_comingHour_51 : decode cX1_comingHour 51 = .ok (.aload_n 1, 1) := by decide +kernel
theorem dX1_comingHour_52 : decode cX1_comingHour 52 = .ok (.iload_n 3, 1) := by decide +kernel
theorem dX1_comingHour_53 : decode cX1_comingHour 53 = .ok (.aload_n 0, 1) := by decide +kernel
theorem dX1_comingHour_54 : decode cX1_comingHour 54 = .ok (.iload 8, 2) := by decide +kernel
theorem dX1_comingHour_56 : decode cX1_comingHour 56 = .ok (.invokestatic 54, 3) := by decide +kernel
theorem dX1_comingHour_59 : decode cX1_comingHour 59 = .ok (.iload_n 2, 1) := by decide +kernel
theorem dX1_comingHour_60 : decode cX1_comingHour 60 = .ok (.invokevirtual 57, 3) := by decide +kernel
theorem dX1_comingHour_63 : decode cX1_comingHour 63 = .ok (.invokevirtual 60, 3) := by decide +kernel
theorem dX1_comingHour_66 : decode cX1_comingHour 66 = .ok (.istore 10, 2) := by decide +kernel
theorem dX1_comingHour_68 : decode cX1_comingHour 68 = .ok (.iload 10, 2) := by decide +kernel
theorem dX1_comingHour_70 : decode cX1_comingHour 70 = .ok (.iload 9, 2) := by decide +kernel
theorem dX1_comingHour_72 : decode cX1_comingHour 72 = .ok (.imul, 1) := by decide +kernel
theorem dX1_comingHour_73 : decode cX1_comingHour 73 = .ok (.iload 6, 2) := by decide +kernel
theorem dX1_comingHour_75 : decode cX1_comingHour 75 = .ok (.if_icmp .lt 14, 3) := by decide +kernel
theorem dX1_comingHour_78 : decode cX1_comingHour 78 = .ok (.iload 8, 2) := by decide +kernel
theorem dX1_comingHour_80 : decode cX1_comingHour 80 = .ok (.iload 6, 2) := by decide +kernel
theorem dX1_comingHour_82 : decode cX1_comingHour 82 = .ok (.iload 10, 2) := by decide +kernel
theorem dX1_comingHour_84 : decode cX1_comingHour 84 = .ok (.invokestatic 65, 3) := by decide +kernel
theorem dX1_comingHour_87 : decode cX1_comingHour 87 = .ok (.iadd, 1) := by decide +kernel
theorem dX1_comingHour_88 : decode cX1_comingHour 88 = .ok (.ireturn, 1) := by decide +kernel
theorem dX1_comingHour_89 : decode cX1_comingHour 89 = .ok (.iload 6, 2) := by decide +kernel
theorem dX1_comingHour_91 : decode cX1_comingHour 91 = .ok (.iload 10, 2) := by decide +kernel
theorem dX1_comingHour_93 : decode cX1_comingHour 93 = .ok (.iload 9, 2) := by decide +kernel
theorem dX1_comingHour_95 : decode cX1_comingHour 95 = .ok (.imul, 1) := by decide +kernel
theorem dX1_comingHour_96 : decode cX1_comingHour 96 = .ok (.isub, 1) := by decide +kernel
theorem dX1_comingHour_97 : decode cX1_comingHour 97 = .ok (.istore 6, 2) := by decide +kernel
theorem dX1_comingHour_99 : decode cX1_comingHour 99 = .ok (.iinc 7 1, 3) := by decide +kernel
theorem dX1_comingHour_102 : decode cX1_comingHour 102 = .ok (.goto (-88), 3) := by decide +kernel
theorem dX1_comingHour_105 : decode cX1_comingHour 105 = .ok (.iload 5, 2) := by decide +kernel
theorem dX1_comingHour_107 : decode cX1_comingHour 107 = .ok (.iconst 1, 1) := by decide +kernel
theorem dX1_comingHour_108 : decode cX1_comingHour 108 = .ok (.iadd, 1) := by decide +kernel
theorem dX1_comingHour_109 : decode cX1_comingHour 109 = .ok (.ireturn, 1) := by decide +kernel
theorem dX1_hoursFor_0 : decode cX1_hoursFor 0 = .ok (.iload_n 1, 1) := by decide +kernel
theorem dX1_hoursFor_1 : decode cX1_hoursFor 1 = .ok (.ifCond .gt 9, 3) := by decide +kernel
theorem dX1_hoursFor_4 : decode cX1_hoursFor 4 = .ok (.sipush 2001, 3) := by decide +kernel
theorem dX1_hoursFor_7 : decode cX1_hoursFor 7 = .ok (.goto 10, 3) := by decide +kernel
theorem dX1_hoursFor_10 : decode cX1_hoursFor 10 = .ok (.iload_n 0, 1) := by decide +kernel
theorem dX1_hoursFor_11 : decode cX1_hoursFor 11 = .ok (.iload_n 1, 1) := by decide +kernel
theorem dX1_hoursFor_12 : decode cX1_hoursFor 12 = .ok (.iadd, 1) := by decide +kernel
theorem dX1_hoursFor_13 : decode cX1_hoursFor 13 = .ok (.iconst 1, 1) := by decide +kernel
theorem dX1_hoursFor_14 : decode cX1_hoursFor 14 = .ok (.isub, 1) := by decide +kernel
theorem dX1_hoursFor_15 : decode cX1_hoursFor 15 = .ok (.iload_n 1, 1) := by decide +kernel
theorem dX1_hoursFor_16 : decode cX1_hoursFor 16 = .ok (.idiv, 1) := by decide +kernel
theorem dX1_hoursFor_17 : decode cX1_hoursFor 17 = .ok (.ireturn, 1) := by decide +kernel
set_option maxRecDepth 20000 in
theorem ggX1_reach_X5_outside : GoodIn wsX1_reach wsX5_outside := goodIn_r _ [4] (by decide +kernel) (by decide +kernel)
set_option maxRecDepth 20000 in
theorem gX1_reach_X5_outside_n19 : GoodIn wsX1_reach (wsX5_outside) := ggX1_reach_X5_outside
theorem dX1_reach_0 : decode cX1_reach 0 = .ok (.iload_n 1, 1) := by decide +kernel
theorem dX1_reach_1 : decode cX1_reach 1 = .ok (.sipush 159, 3) := by decide +kernel
theorem dX1_reach_4 : decode cX1_reach 4 = .ok (.invokestatic 19, 3) := by decide +kernel
theorem dX1_reach_7 : decode cX1_reach 7 = .ok (.ifCond .ne 20, 3) := by decide +kernel
theorem dX1_reach_10 : decode cX1_reach 10 = .ok (.iload_n 2, 1) := by decide +kernel
theorem dX1_reach_11 : decode cX1_reach 11 = .ok (.aload_n 0, 1) := by decide +kernel
theorem dX1_reach_12 : decode cX1_reach 12 = .ok (.getfield 9, 3) := by decide +kernel
theorem dX1_reach_15 : decode cX1_reach 15 = .ok (.iload_n 1, 1) := by decide +kernel
theorem dX1_reach_16 : decode cX1_reach 16 = .ok (.iaload, 1) := by decide +kernel
theorem dX1_reach_17 : decode cX1_reach 17 = .ok (.if_icmp .ge 10, 3) := by decide +kernel
theorem dX1_reach_20 : decode cX1_reach 20 = .ok (.aload_n 0, 1) := by decide +kernel
theorem dX1_reach_21 : decode cX1_reach 21 = .ok (.getfield 9, 3) := by decide +kernel
theorem dX1_reach_24 : decode cX1_reach 24 = .ok (.iload_n 1, 1) := by decide +kernel
theorem dX1_reach_25 : decode cX1_reach 25 = .ok (.iload_n 2, 1) := by decide +kernel
theorem dX1_reach_26 : decode cX1_reach 26 = .ok (.iastore, 1) := by decide +kernel
theorem dX1_reach_27 : decode cX1_reach 27 = .ok (.return_, 1) := by decide +kernel
theorem dX1_earliestCell_0 : decode cX1_earliestCell 0 = .ok (.bipush (-9), 2) := by decide +kernel
theorem dX1_earliestCell_2 : decode cX1_earliestCell 2 = .ok (.istore_n 1, 1) := by decide +kernel
theorem dX1_earliestCell_3 : decode cX1_earliestCell 3 = .ok (.sipush 2001, 3) := by decide +kernel
theorem dX1_earliestCell_6 : decode cX1_earliestCell 6 = .ok (.istore_n 2, 1) := by decide +kernel
theorem dX1_earliestCell_7 : decode cX1_earliestCell 7 = .ok (.iconst 0, 1) := by decide +kernel
theorem dX1_earliestCell_8 : decode cX1_earliestCell 8 = .ok (.istore_n 3, 1) := by decide +kernel
theorem dX1_earliestCell_9 : decode cX1_earliestCell 9 = .ok (.iload_n 3, 1) := by decide +kernel
theorem dX1_earliestCell_10 : decode cX1_earliestCell 10 = .ok (.sipush 160, 3) := by decide +kernel
theorem dX1_earliestCell_13 : decode cX1_earliestCell 13 = .ok (.if_icmp .ge 37, 3) := by decide +kernel
theorem dX1_earliestCell_16 : decode cX1_earliestCell 16 = .ok (.aload_n 0, 1) := by decide +kernel
theorem dX1_earliestCell_17 : decode cX1_earliestCell 17 = .ok (.getfield 15, 3) := by decide +kernel
theorem dX1_earliestCell_20 : decode cX1_earliestCell 20 = .ok (.iload_n 3, 1) := by decide +kernel
theorem dX1_earliestCell_21 : decode cX1_earliestCell 21 = .ok (.baload, 1) := by decide +kernel
theorem dX1_earliestCell_22 : decode cX1_earliestCell 22 = .ok (.ifCond .ne 22, 3) := by decide +kernel
theorem dX1_earliestCell_25 : decode cX1_earliestCell 25 = .ok (.aload_n 0, 1) := by decide +kernel
theorem dX1_earliestCell_26 : decode cX1_earliestCell 26 = .ok (.getfield 9, 3) := by decide +kernel
theorem dX1_earliestCell_29 : decode cX1_earliestCell 29 = .ok (.iload_n 3, 1) := by decide +kernel
theorem dX1_earliestCell_30 : decode cX1_earliestCell 30 = .ok (.iaload, 1) := by decide +kernel
theorem dX1_earliestCell_31 : decode cX1_earliestCell 31 = .ok (.iload_n 2, 1) := by decide +kernel
theorem dX1_earliestCell_32 : decode cX1_earliestCell 32 = .ok (.if_icmp .ge 12, 3) := by decide +kernel
theorem dX1_earliestCell_35 : decode cX1_earliestCell 35 = .ok (.iload_n 3, 1) := by decide +kernel
theorem dX1_earliestCell_36 : decode cX1_earliestCell 36 = .ok (.istore_n 1, 1) := by decide +kernel
theorem dX1_earliestCell_37 : decode cX1_earliestCell 37 = .ok (.aload_n 0, 1) := by decide +kernel
theorem dX1_earliestCell_38 : decode cX1_earliestCell 38 = .ok (.getfield 9, 3) := by decide +kernel
theorem dX1_earliestCell_41 : decode cX1_earliestCell 41 = .ok (.iload_n 3, 1) := by decide +kernel
theorem dX1_earliestCell_42 : decode cX1_earliestCell 42 = .ok (.iaload, 1) := by decide +kernel
theorem dX1_earliestCell_43 : decode cX1_earliestCell 43 = .ok (.istore_n 2, 1) := by decide +kernel
theorem dX1_earliestCell_44 : decode cX1_earliestCell 44 = .ok (.iinc 3 1, 3) := by decide +kernel
theorem dX1_earliestCell_47 : decode cX1_earliestCell 47 = .ok (.goto (-38), 3) := by decide +kernel
theorem dX1_earliestCell_50 : decode cX1_earliestCell 50 = .ok (.iload_n 1, 1) := by decide +kernel
theorem dX1_earliestCell_51 : decode cX1_earliestCell 51 = .ok (.ireturn, 1) := by decide +kernel
theorem dX2_init_0 : decode cX2_init 0 = .ok (.aload_n 0, 1) := by decide +kernel
theorem dX2_init_1 : decode cX2_init 1 = .ok (.invokespecial 3, 3) := by decide +kernel
theorem dX2_init_4 : decode cX2_init 4 = .ok (.aload_n 0, 1) := by decide +kernel
theorem dX2_init_5 : decode cX2_init 5 = .ok (.sipush 160, 3) := by decide +kernel
theorem dX2_init_8 : decode cX2_init 8 = .ok (.newarray .boolean, 2) := by decide +kernel
theorem dX2_init_10 : decode cX2_init 10 = .ok (.putfield 9, 3) := by decide +kernel
theorem dX2_init_13 : decode cX2_init 13 = .ok (.aload_n 0, 1) := by decide +kernel
theorem dX2_init_14 : decode cX2_init 14 = .ok (.bipush 12, 2) := by decide +kernel
theorem dX2_init_16 : decode cX2_init 16 = .ok (.newarray .boolean, 2) := by decide +kernel
theorem dX2_init_18 : decode cX2_init 18 = .ok (.putfield 15, 3) := by decide +kernel
theorem dX2_init_21 : decode cX2_init 21 = .ok (.aload_n 0, 1) := by decide +kernel
theorem dX2_init_22 : decode cX2_init 22 = .ok (.bipush 12, 2) := by decide +kernel
theorem dX2_init_24 : decode cX2_init 24 = .ok (.sipush 160, 3) := by decide +kernel
theorem dX2_init_27 : decode cX2_init 27 = .ok (.multianewarray 18 2, 4) := by decide +kernel
theorem dX2_init_31 : decode cX2_init 31 = .ok (.putfield 20, 3) := by decide +kernel
theorem dX2_init_34 : decode cX2_init 34 = .ok (.return_, 1) := by decide +kernel
set_option maxRecDepth 20000 in
theorem ggX2_isLand_X5_outside : GoodIn wsX2_isLand wsX5_outside := goodIn_r _ [4] (by decide +kernel) (by decide +kernel)
set_option maxRecDepth 20000 in
theorem gX2_isLand_X5_outside_n23 : GoodIn wsX2_isLand (wsX5_outside) := ggX2_isLand_X5_outside
theorem dX2_isLand_0 : decode cX2_isLand 0 = .ok (.iload_n 1, 1) := by decide +kernel
theorem dX2_isLand_1 : decode cX2_isLand 1 = .ok (.sipush 159, 3) := by decide +kernel
theorem dX2_isLand_4 : decode cX2_isLand 4 = .ok (.invokestatic 23, 3) := by decide +kernel
theorem dX2_isLand_7 : decode cX2_isLand 7 = .ok (.ifCond .ne 16, 3) := by decide +kernel
theorem dX2_isLand_10 : decode cX2_isLand 10 = .ok (.aload_n 0, 1) := by decide +kernel
theorem dX2_isLand_11 : decode cX2_isLand 11 = .ok (.getfield 9, 3) := by decide +kernel
theorem dX2_isLand_14 : decode cX2_isLand 14 = .ok (.iload_n 1, 1) := by decide +kernel
theorem dX2_isLand_15 : decode cX2_isLand 15 = .ok (.baload, 1) := by decide +kernel
theorem dX2_isLand_16 : decode cX2_isLand 16 = .ok (.ifCond .eq 7, 3) := by decide +kernel
theorem dX2_isLand_19 : decode cX2_isLand 19 = .ok (.iconst 1, 1) := by decide +kernel
theorem dX2_isLand_20 : decode cX2_isLand 20 = .ok (.goto 4, 3) := by decide +kernel
theorem dX2_isLand_23 : decode cX2_isLand 23 = .ok (.iconst 0, 1) := by decide +kernel
theorem dX2_isLand_24 : decode cX2_isLand 24 = .ok (.ireturn, 1) := by decide +kernel
set_option maxRecDepth 20000 in
theorem ggX2_setLand_X5_outside : GoodIn wsX2_setLand wsX5_outside := goodIn_r _ [4] (by decide +kernel) (by decide +kernel)
set_option maxRecDepth 20000 in
theorem gX2_setLand_X5_outside_n23 : GoodIn wsX2_setLand (wsX5_outside) := ggX2_setLand_X5_outside
theorem dX2_setLand_0 : decode cX2_setLand 0 = .ok (.iload_n 1, 1) := by decide +kernel
theorem dX2_setLand_1 : decode cX2_setLand 1 = .ok (.sipush 159, 3) := by decide +kernel
theorem dX2_setLand_4 : decode cX2_setLand 4 = .ok (.invokestatic 23, 3) := by decide +kernel
theorem dX2_setLand_7 : decode cX2_setLand 7 = .ok (.ifCond .ne 10, 3) := by decide +kernel
theorem dX2_setLand_10 : decode cX2_setLand 10 = .ok (.aload_n 0, 1) := by decide +kernel
theorem dX2_setLand_11 : decode cX2_setLand 11 = .ok (.getfield 9, 3) := by decide +kernel
theorem dX2_setLand_14 : decode cX2_setLand 14 = .ok (.iload_n 1, 1) := by decide +kernel
theorem dX2_setLand_15 : decode cX2_setLand 15 = .ok (.iload_n 2, 1) := by decide +kernel
theorem dX2_setLand_16 : decode cX2_setLand 16 = .ok (.bastore, 1) := by decide +kernel
theorem dX2_setLand_17 : decode cX2_setLand 17 = .ok (.return_, 1) := by decide +kernel
set_option maxRecDepth 20000 in
theorem ggX2_hasChart_X5_outside : GoodIn wsX2_hasChart wsX5_outside := goodIn_r _ [4] (by decide +kernel) (by decide +kernel)
set_option maxRecDepth 20000 in
theorem gX2_hasChart_X5_outside_n23 : GoodIn wsX2_hasChart (wsX5_outside) := ggX2_hasChart_X5_outside
theorem dX2_hasChart_0 : decode cX2_hasChart 0 = .ok (.iload_n 1, 1) := by decide +kernel
theorem dX2_hasChart_1 : decode cX2_hasChart 1 = .ok (.bipush 11, 2) := by decide +kernel
theorem dX2_hasChart_3 : decode cX2_hasChart 3 = .ok (.invokestatic 23, 3) := by decide +kernel
theorem dX2_hasChart_6 : decode cX2_hasChart 6 = .ok (.ifCond .ne 16, 3) := by decide +kernel
theorem dX2_hasChart_9 : decode cX2_hasChart 9 = .ok (.aload_n 0, 1) := by decide +kernel
theorem dX2_hasChart_10 : decode cX2_hasChart 10 = .ok (.getfield 15, 3) := by decide +kernel
theorem dX2_hasChart_13 : decode cX2_hasChart 13 = .ok (.iload_n 1, 1) := by decide +kernel
theorem dX2_hasChart_14 : decode cX2_hasChart 14 = .ok (.baload, 1) := by decide +kernel
theorem dX2_hasChart_15 : decode cX2_hasChart 15 = .ok (.ifCond .eq 7, 3) := by decide +kernel
theorem dX2_hasChart_18 : decode cX2_hasChart 18 = .ok (.iconst 1, 1) := by decide +kernel
theorem dX2_hasChart_19 : decode cX2_hasChart 19 = .ok (.goto 4, 3) := by decide +kernel
theorem dX2_hasChart_22 : decode cX2_hasChart 22 = .ok (.iconst 0, 1) := by decide +kernel
theorem dX2_hasChart_23 : decode cX2_hasChart 23 = .ok (.ireturn, 1) := by decide +kernel
theorem dX2_chartsThere_0 : decode cX2_chartsThere 0 = .ok (.iconst 0, 1) := by decide +kernel
theorem dX2_chartsThere_1 : decode cX2_chartsThere 1 = .ok (.istore_n 1, 1) := by decide +kernel
theorem dX2_chartsThere_2 : decode cX2_chartsThere 2 = .ok (.iconst 0, 1) := by decide +kernel
theorem dX2_chartsThere_3 : decode cX2_chartsThere 3 = .ok (.istore_n 2, 1) := by decide +kernel
theorem dX2_chartsThere_4 : decode cX2_chartsThere 4 = .ok (.iload_n 2, 1) := by decide +kernel
theorem dX2_chartsThere_5 : decode cX2_chartsThere 5 = .ok (.bipush 12, 2) := by decide +kernel
theorem dX2_chartsThere_7 : decode cX2_chartsThere 7 = .ok (.if_icmp .ge 21, 3) := by decide +kernel
theorem dX2_chartsThere_10 : decode cX2_chartsThere 10 = .ok (.aload_n 0, 1) := by decide +kernel
theorem dX2_chartsThere_11 : decode cX2_chartsThere 11 = .ok (.getfield 15, 3) := by decide +kernel
theorem dX2_chartsThere_14 : decode cX2_chartsThere 14 = .ok (.iload_n 2, 1) := by decide +kernel
theorem dX2_chartsThere_15 : decode cX2_chartsThere 15 = .ok (.baload, 1) := by decide +kernel
theorem dX2_chartsThere_16 : decode cX2_chartsThere 16 = .ok (.ifCond .eq 6, 3) := by decide +kernel
theorem dX2_chartsThere_19 : decode cX2_chartsThere 19 = .ok (.iinc 1 1, 3) := by decide +kernel
theorem dX2_chartsThere_22 : decode cX2_chartsThere 22 = .ok (.iinc 2 1, 3) := by decide +kernel
theorem dX2_chartsThere_25 : decode cX2_chartsThere 25 = .ok (.goto (-21), 3) := by decide +kernel
theorem dX2_chartsThere_28 : decode cX2_chartsThere 28 = .ok (.iload_n 1, 1) := by decide +kernel
theorem dX2_chartsThere_29 : decode cX2_chartsThere 29 = .ok (.ireturn, 1) := by decide +kernel
set_option maxRecDepth 20000 in
theorem ggX2_drawCalm_X5_outside : GoodIn wsX2_drawCalm wsX5_outside := goodIn_r _ [5] (by decide +kernel) (by decide +kernel)
set_option maxRecDepth 20000 in
theorem gX2_drawCalm_X5_outside_n23 : GoodIn wsX2_drawCalm (wsX5_outside) := ggX2_drawCalm_X5_outside
set_option maxRecDepth 20000 in
theorem ggX2_drawCalm_J7_fill_031fb : GoodIn wsX2_drawCalm wsJ7_fill_031fb := goodIn_r _ [9] (by decide +kernel) (by decide +kernel)
set_option maxRecDepth 20000 in
theorem gX2_drawCalm_J7_fill_031fb : GoodIn wsX2_drawCalm (va_wsS RX2 27 yJ7_fill_031fb wsJ7_fill_031fb) := goodIn_app (goodIn_of _ (by decide +kernel)) ggX2_drawCalm_J7_fill_031fb
theorem dX2_drawCalm_0 : decode cX2_drawCalm 0 = .ok (.iload_n 1, 1) := by decide +kernel
theorem dX2_drawCalm_1 : decode cX2_drawCalm 1 = .ok (.bipush 11, 2) := by decide +kernel
theorem dX2_drawCalm_3 : decode cX2_drawCalm 3 = .ok (.invokestatic 23, 3) := by decide +kernel
theorem dX2_drawCalm_6 : decode cX2_drawCalm 6 = .ok (.ifCond .ne 20, 3) := by decide +kernel
theorem dX2_drawCalm_9 : decode cX2_drawCalm 9 = .ok (.aload_n 0, 1) := by decide +kernel
theorem dX2_drawCalm_10 : decode cX2_drawCalm 10 = .ok (.getfield 15, 3) := by decide +kernel
theorem dX2_drawCalm_13 : decode cX2_drawCalm 13 = .ok (.iload_n 1, 1) := by decide +kernel
theorem dX2_drawCalm_14 : decode cX2_drawCalm 14 = .ok (.iconst 1, 1) := by decide +kernel
theorem dX2_drawCalm_15 : decode cX2_drawCalm 15 = .ok (.bastore, 1) := by decide +kernel
theorem dX2_drawCalm_16 : decode cX2_drawCalm 16 = .ok (.aload_n 0, 1) := by decide +kernel
theorem dX2_drawCalm_17 : decode cX2_drawCalm 17 = .ok (.getfield 20, 3) := by decide +kernel
theorem dX2_drawCalm_20 : decode cX2_drawCalm 20 = .ok (.iload_n 1, 1) := by decide +kernel
theorem dX2_drawCalm_21 : decode cX2_drawCalm 21 = .ok (.aaload, 1) := by decide +kernel
theorem dX2_drawCalm_22 : decode cX2_drawCalm 22 = .ok (.iconst 0, 1) := by decide +kernel
theorem dX2_drawCalm_23 : decode cX2_drawCalm 23 = .ok (.invokestatic 27, 3) := by decide +kernel
theorem dX2_drawCalm_26 : decode cX2_drawCalm 26 = .ok (.return_, 1) := by decide +kernel
set_option maxRecDepth 20000 in
theorem ggX2_loseChart_X5_outside : GoodIn wsX2_loseChart wsX5_outside := goodIn_r _ [4] (by decide +kernel) (by decide +kernel)
set_option maxRecDepth 20000 in
theorem gX2_loseChart_X5_outside_n23 : GoodIn wsX2_loseChart (wsX5_outside) := ggX2_loseChart_X5_outside
theorem dX2_loseChart_0 : decode cX2_loseChart 0 = .ok (.iload_n 1, 1) := by decide +kernel
theorem dX2_loseChart_1 : decode cX2_loseChart 1 = .ok (.bipush 11, 2) := by decide +kernel
theorem dX2_loseChart_3 : decode cX2_loseChart 3 = .ok (.invokestatic 23, 3) := by decide +kernel
theorem dX2_loseChart_6 : decode cX2_loseChart 6 = .ok (.ifCond .ne 10, 3) := by decide +kernel
theorem dX2_loseChart_9 : decode cX2_loseChart 9 = .ok (.aload_n 0, 1) := by decide +kernel
theorem dX2_loseChart_10 : decode cX2_loseChart 10 = .ok (.getfield 15, 3) := by decide +kernel
theorem dX2_loseChart_13 : decode cX2_loseChart 13 = .ok (.iload_n 1, 1) := by decide +kernel
theorem dX2_loseChart_14 : decode cX2_loseChart 14 = .ok (.iconst 0, 1) := by decide +kernel
theorem dX2_loseChart_15 : decode cX2_loseChart 15 = .ok (.bastore, 1) := by decide +kernel
theorem dX2_loseChart_16 : decode cX2_loseChart 16 = .ok (.return_, 1) := by decide +kernel
set_option maxRecDepth 20000 in
theorem ggX2_drawnAt_X2_hasChart : GoodIn wsX2_drawnAt wsX2_hasChart := goodIn_r _ [6, 7, 8, 9, 10, 11, 12, 13] (by decide +kernel) (by decide +kernel)
set_option maxRecDepth 20000 in
theorem gX2_drawnAt_X2_hasChart : GoodIn wsX2_drawnAt (wsV RX2 33 RX2 yX2_hasChart wsX2_hasChart) := goodIn_app (goodIn_of _ (by decide +kernel)) ggX2_drawnAt_X2_hasChart
set_option maxRecDepth 20000 in
theorem ggX2_drawnAt_X5_outside : GoodIn wsX2_drawnAt wsX5_outside := goodIn_r _ [10] (by decide +kernel) (by decide +kernel)
set_option maxRecDepth 20000 in
theorem gX2_drawnAt_X5_outside_n23 : GoodIn wsX2_drawnAt (wsX5_outside) := ggX2_drawnAt_X5_outside
theorem dX2_drawnAt_0 : decode cX2_drawnAt 0 = .ok (.aload_n 0, 1) := by decide +kernel
theorem dX2_drawnAt_1 : decode cX2_drawnAt 1 = .ok (.iload_n 1, 1) := by decide +kernel
theorem dX2_drawnAt_2 : decode cX2_drawnAt 2 = .ok (.invokevirtual 33, 3) := by decide +kernel
theorem dX2_drawnAt_5 : decode cX2_drawnAt 5 = .ok (.ifCond .eq 24, 3) := by decide +kernel
theorem dX2_drawnAt_8 : decode cX2_drawnAt 8 = .ok (.iload_n 2, 1) := by decide +kernel
theorem dX2_drawnAt_9 : decode cX2_drawnAt 9 = .ok (.sipush 159, 3) := by decide +kernel
theorem dX2_drawnAt_12 : decode cX2_drawnAt 12 = .ok (.invokestatic 23, 3) := by decide +kernel
theorem dX2_drawnAt_15 : decode cX2_drawnAt 15 = .ok (.ifCond .ne 14, 3) := by decide +kernel
theorem dX2_drawnAt_18 : decode cX2_drawnAt 18 = .ok (.aload_n 0, 1) := by decide +kernel
theorem dX2_drawnAt_19 : decode cX2_drawnAt 19 = .ok (.getfield 20, 3) := by decide +kernel
theorem dX2_drawnAt_22 : decode cX2_drawnAt 22 = .ok (.iload_n 1, 1) := by decide +kernel
theorem dX2_drawnAt_23 : decode cX2_drawnAt 23 = .ok (.aaload, 1) := by decide +kernel
theorem dX2_drawnAt_24 : decode cX2_drawnAt 24 = .ok (.iload_n 2, 1) := by decide +kernel
theorem dX2_drawnAt_25 : decode cX2_drawnAt 25 = .ok (.baload, 1) := by decide +kernel
theorem dX2_drawnAt_26 : decode cX2_drawnAt 26 = .ok (.goto 4, 3) := by decide +kernel
theorem dX2_drawnAt_29 : decode cX2_drawnAt 29 = .ok (.iconst 0, 1) := by decide +kernel
theorem dX2_drawnAt_30 : decode cX2_drawnAt 30 = .ok (.ireturn, 1) := by decide +kernel
set_option maxRecDepth 20000 in
theorem ggX2_drawAt_X2_hasChart : GoodIn wsX2_drawAt wsX2_hasChart := goodIn_r _ [6, 7, 8, 9, 10, 11, 12, 13] (by decide +kernel) (by decide +kernel)
set_option maxRecDepth 20000 in
theorem gX2_drawAt_X2_hasChart : GoodIn wsX2_drawAt (wsV RX2 33 RX2 yX2_hasChart wsX2_hasChart) := goodIn_app (goodIn_of _ (by decide +kernel)) ggX2_drawAt_X2_hasChart
set_option maxRecDepth 20000 in
theorem ggX2_drawAt_X5_outside : GoodIn wsX2_drawAt wsX5_outside := goodIn_r _ [10] (by decide +kernel) (by decide +kernel)
set_option maxRecDepth 20000 in
theorem gX2_drawAt_X5_outside_n23 : GoodIn wsX2_drawAt (wsX5_outside) := ggX2_drawAt_X5_outside
theorem dX2_drawAt_0 : decode cX2_drawAt 0 = .ok (.aload_n 0, 1) := by decide +kernel
theorem dX2_drawAt_1 : decode cX2_drawAt 1 = .ok (.iload_n 1, 1) := by decide +kernel
theorem dX2_drawAt_2 : decode cX2_drawAt 2 = .ok (.invokevirtual 33, 3) := by decide +kernel
theorem dX2_drawAt_5 : decode cX2_drawAt 5 = .ok (.ifCond .eq 22, 3) := by decide +kernel
theorem dX2_drawAt_8 : decode cX2_drawAt 8 = .ok (.iload_n 2, 1) := by decide +kernel
theorem dX2_drawAt_9 : decode cX2_drawAt 9 = .ok (.sipush 159, 3) := by decide +kernel
theorem dX2_drawAt_12 : decode cX2_drawAt 12 = .ok (.invokestatic 23, 3) := by decide +kernel
theorem dX2_drawAt_15 : decode cX2_drawAt 15 = .ok (.ifCond .ne 12, 3) := by decide +kernel
theorem dX2_drawAt_18 : decode cX2_drawAt 18 = .ok (.aload_n 0, 1) := by decide +kernel
theorem dX2_drawAt_19 : decode cX2_drawAt 19 = .ok (.getfield 20, 3) := by decide +kernel
theorem dX2_drawAt_22 : decode cX2_drawAt 22 = .ok (.iload_n 1, 1) := by decide +kernel
theorem dX2_drawAt_23 : decode cX2_drawAt 23 = .ok (.aaload, 1) := by decide +kernel
theorem dX2_drawAt_24 : decode cX2_drawAt 24 = .ok (.iload_n 2, 1) := by decide +kernel
theorem dX2_drawAt_25 : decode cX2_drawAt 25 = .ok (.iload_n 3, 1) := by decide +kernel
theorem dX2_drawAt_26 : decode cX2_drawAt 26 = .ok (.bastore, 1) := by decide +kernel
theorem dX2_drawAt_27 : decode cX2_drawAt 27 = .ok (.return_, 1) := by decide +kernel
set_option maxRecDepth 20000 in
theorem ggX2_copyChart_X2_hasChart : GoodIn wsX2_copyChart wsX2_hasChart := goodIn_r _ [10, 11, 12, 13, 14, 15, 16, 17] (by decide +kernel) (by decide +kernel)
set_option maxRecDepth 20000 in
theorem gX2_copyChart_X2_hasChart : GoodIn wsX2_copyChart (wsV RX2 33 RX2 yX2_hasChart wsX2_hasChart) := goodIn_app (goodIn_of _ (by decide +kernel)) ggX2_copyChart_X2_hasChart
set_option maxRecDepth 20000 in
theorem ggX2_copyChart_X5_outside : GoodIn wsX2_copyChart wsX5_outside := goodIn_r _ [14] (by decide +kernel) (by decide +kernel)
set_option maxRecDepth 20000 in
theorem gX2_copyChart_X5_outside_n23 : GoodIn wsX2_copyChart (wsX5_outside) := ggX2_copyChart_X5_outside
theorem dX2_copyChart_0 : decode cX2_copyChart 0 = .ok (.aload_n 0, 1) := by decide +kernel
theorem dX2_copyChart_1 : decode cX2_copyChart 1 = .ok (.iload_n 1, 1) := by decide +kernel
theorem dX2_copyChart_2 : decode cX2_copyChart 2 = .ok (.invokevirtual 33, 3) := by decide +kernel
theorem dX2_copyChart_5 : decode cX2_copyChart 5 = .ok (.ifCond .eq 16, 3) := by decide +kernel
theorem dX2_copyChart_8 : decode cX2_copyChart 8 = .ok (.aload_n 0, 1) := by decide +kernel
theorem dX2_copyChart_9 : decode cX2_copyChart 9 = .ok (.iload_n 3, 1) := by decide +kernel
theorem dX2_copyChart_10 : decode cX2_copyChart 10 = .ok (.invokevirtual 33, 3) := by decide +kernel
theorem dX2_copyChart_13 : decode cX2_copyChart 13 = .ok (.ifCond .eq 8, 3) := by decide +kernel
theorem dX2_copyChart_16 : decode cX2_copyChart 16 = .ok (.iload 5, 2) := by decide +kernel
theorem dX2_copyChart_18 : decode cX2_copyChart 18 = .ok (.ifCond .ge 4, 3) := by decide +kernel
theorem dX2_copyChart_21 : decode cX2_copyChart 21 = .ok (.return_, 1) := by decide +kernel
theorem dX2_copyChart_22 : decode cX2_copyChart 22 = .ok (.iload_n 2, 1) := by decide +kernel
theorem dX2_copyChart_23 : decode cX2_copyChart 23 = .ok (.sipush 160, 3) := by decide +kernel
theorem dX2_copyChart_26 : decode cX2_copyChart 26 = .ok (.iload 5, 2) := by decide +kernel
theorem dX2_copyChart_28 : decode cX2_copyChart 28 = .ok (.isub, 1) := by decide +kernel
theorem dX2_copyChart_29 : decode cX2_copyChart 29 = .ok (.invokestatic 23, 3) := by decide +kernel
theorem dX2_copyChart_32 : decode cX2_copyChart 32 = .ok (.ifCond .ne 37, 3) := by decide +kernel
theorem dX2_copyChart_35 : decode cX2_copyChart 35 = .ok (.iload 4, 2) := by decide +kernel
theorem dX2_copyChart_37 : decode cX2_copyChart 37 = .ok (.sipush 160, 3) := by decide +kernel
theorem dX2_copyChart_40 : decode cX2_copyChart 40 = .ok (.iload 5, 2) := by decide +kernel
theorem dX2_copyChart_42 : decode cX2_copyChart 42 = .ok (.isub, 1) := by decide +kernel
theorem dX2_copyChart_43 : decode cX2_copyChart 43 = .ok (.invokestatic 23, 3) := by decide +kernel
theorem dX2_copyChart_46 : decode cX2_copyChart 46 = .ok (.ifCond .ne 23, 3) := by decide +kernel
theorem dX2_copyChart_49 : decode cX2_copyChart 49 = .ok (.aload_n 0, 1) := by decide +kernel
theorem dX2_copyChart_50 : decode cX2_copyChart 50 = .ok (.getfield 20, 3) := by decide +kernel
theorem dX2_copyChart_53 : decode cX2_copyChart 53 = .ok (.iload_n 1, 1) := by decide +kernel
theorem dX2_copyChart_54 : decode cX2_copyChart 54 = .ok (.aaload, 1) := by decide +kernel
theorem dX2_copyChart_55 : decode cX2_copyChart 55 = .ok (.iload_n 2, 1) := by decide +kernel
theorem dX2_copyChart_56 : decode cX2_copyChart 56 = .ok (.aload_n 0, 1) := by decide +kernel
theorem dX2_copyChart_57 : decode cX2_copyChart 57 = .ok (.getfield 20, 3) := by decide +kernel
theorem dX2_copyChart_60 : decode cX2_copyChart 60 = .ok (.iload_n 3, 1) := by decide +kernel
theorem dX2_copyChart_61 : decode cX2_copyChart 61 = .ok (.aaload, 1) := by decide +kernel
theorem dX2_copyChart_62 : decode cX2_copyChart 62 = .ok (.iload 4, 2) := by decide +kernel
theorem dX2_copyChart_64 : decode cX2_copyChart 64 = .ok (.iload 5, 2) := by decide +kernel
theorem dX2_copyChart_66 : decode cX2_copyChart 66 = .ok (.invokestatic 37, 3) := by decide +kernel
theorem dX2_copyChart_69 : decode cX2_copyChart 69 = .ok (.return_, 1) := by decide +kernel
set_option maxRecDepth 20000 in
theorem ggX2_windIn_X5_outside : GoodIn wsX2_windIn wsX5_outside := goodIn_r _ [5] (by decide +kernel) (by decide +kernel)
set_option maxRecDepth 20000 in
theorem gX2_windIn_X5_outside_n23 : GoodIn wsX2_windIn (wsX5_outside) := ggX2_windIn_X5_outside
theorem dX2_windIn_0 : decode cX2_windIn 0 = .ok (.iload_n 1, 1) := by decide +kernel
theorem dX2_windIn_1 : decode cX2_windIn 1 = .ok (.bipush 11, 2) := by decide +kernel
theorem dX2_windIn_3 : decode cX2_windIn 3 = .ok (.invokestatic 23, 3) := by decide +kernel
theorem dX2_windIn_6 : decode cX2_windIn 6 = .ok (.ifCond .ne 22, 3) := by decide +kernel
theorem dX2_windIn_9 : decode cX2_windIn 9 = .ok (.iload_n 2, 1) := by decide +kernel
theorem dX2_windIn_10 : decode cX2_windIn 10 = .ok (.sipush 159, 3) := by decide +kernel
theorem dX2_windIn_13 : decode cX2_windIn 13 = .ok (.invokestatic 23, 3) := by decide +kernel
theorem dX2_windIn_16 : decode cX2_windIn 16 = .ok (.ifCond .ne 12, 3) := by decide +kernel
theorem dX2_windIn_19 : decode cX2_windIn 19 = .ok (.aload_n 0, 1) := by decide +kernel
theorem dX2_windIn_20 : decode cX2_windIn 20 = .ok (.getfield 15, 3) := by decide +kernel
theorem dX2_windIn_23 : decode cX2_windIn 23 = .ok (.iload_n 1, 1) := by decide +kernel
theorem dX2_windIn_24 : decode cX2_windIn 24 = .ok (.baload, 1) := by decide +kernel
theorem dX2_windIn_25 : decode cX2_windIn 25 = .ok (.ifCond .ne 5, 3) := by decide +kernel
theorem dX2_windIn_28 : decode cX2_windIn 28 = .ok (.iconst 0, 1) := by decide +kernel
theorem dX2_windIn_29 : decode cX2_windIn 29 = .ok (.ireturn, 1) := by decide +kernel
theorem dX2_windIn_30 : decode cX2_windIn 30 = .ok (.aload_n 0, 1) := by decide +kernel
theorem dX2_windIn_31 : decode cX2_windIn 31 = .ok (.getfield 20, 3) := by decide +kernel
theorem dX2_windIn_34 : decode cX2_windIn 34 = .ok (.iload_n 1, 1) := by decide +kernel
theorem dX2_windIn_35 : decode cX2_windIn 35 = .ok (.aaload, 1) := by decide +kernel
theorem dX2_windIn_36 : decode cX2_windIn 36 = .ok (.iload_n 2, 1) := by decide +kernel
theorem dX2_windIn_37 : decode cX2_windIn 37 = .ok (.baload, 1) := by decide +kernel
theorem dX2_windIn_38 : decode cX2_windIn 38 = .ok (.istore_n 3, 1) := by decide +kernel
theorem dX2_windIn_39 : decode cX2_windIn 39 = .ok (.iload_n 3, 1) := by decide +kernel
theorem dX2_windIn_40 : decode cX2_windIn 40 = .ok (.bipush 79, 2) := by decide +kernel
theorem dX2_windIn_42 : decode cX2_windIn 42 = .ok (.invokestatic 23, 3) := by decide +kernel
theorem dX2_windIn_45 : decode cX2_windIn 45 = .ok (.ifCond .eq 7, 3) := by decide +kernel
theorem dX2_windIn_48 : decode cX2_windIn 48 = .ok (.iconst 0, 1) := by decide +kernel
theorem dX2_windIn_49 : decode cX2_windIn 49 = .ok (.goto 4, 3) := by decide +kernel
theorem dX2_windIn_52 : decode cX2_windIn 52 = .ok (.iload_n 3, 1) := by decide +kernel
theorem dX2_windIn_53 : decode cX2_windIn 53 = .ok (.ireturn, 1) := by decide +kernel
set_option maxRecDepth 20000 in
theorem ggX2_nextCell_X5_outside : GoodIn wsX2_nextCell wsX5_outside := goodIn_r _ [3] (by decide +kernel) (by decide +kernel)
set_option maxRecDepth 20000 in
theorem gX2_nextCell_X5_outside_n23 : GoodIn wsX2_nextCell (wsX5_outside) := ggX2_nextCell_X5_outside
set_option maxRecDepth 20000 in
theorem ggX2_nextCell_X2_isLand : GoodIn wsX2_nextCell wsX2_isLand := goodIn_r _ [8, 9, 1, 2, 3, 10, 11, 12] (by decide +kernel) (by decide +kernel)
set_option maxRecDepth 20000 in
theorem gX2_nextCell_X2_isLand : GoodIn wsX2_nextCell (wsV RX2 50 RX2 yX2_isLand wsX2_isLand) := goodIn_app (goodIn_of _ (by decide +kernel)) ggX2_nextCell_X2_isLand
theorem dX2_nextCell_0 : decode cX2_nextCell 0 = .ok (.iload_n 1, 1) := by decide +kernel
theorem dX2_nextCell_1 : decode cX2_nextCell 1 = .ok (.sipush 159, 3) := by decide +kernel
theorem dX2_nextCell_4 : decode cX2_nextCell 4 = .ok (.invokestatic 23, 3) := by decide +kernel
theorem dX2_nextCell_7 : decode cX2_nextCell 7 = .ok (.ifCond .ne 12, 3) := by decide +kernel
theorem dX2_nextCell_10 : decode cX2_nextCell 10 = .ok (.iload_n 2, 1) := by decide +kernel
theorem dX2_nextCell_11 : decode cX2_nextCell 11 = .ok (.bipush 7, 2) := by decide +kernel
theorem dX2_nextCell_13 : decode cX2_nextCell 13 = .ok (.invokestatic 23, 3) := by decide +kernel
theorem dX2_nextCell_16 : decode cX2_nextCell 16 = .ok (.ifCond .eq 6, 3) := by decide +kernel
theorem dX2_nextCell_19 : decode cX2_nextCell 19 = .ok (.bipush (-9), 2) := by decide +kernel
theorem dX2_nextCell_21 : decode cX2_nextCell 21 = .ok (.ireturn, 1) := by decide +kernel
theorem dX2_nextCell_22 : decode cX2_nextCell 22 = .ok (.iload_n 1, 1) := by decide +kernel
theorem dX2_nextCell_23 : decode cX2_nextCell 23 = .ok (.bipush 16, 2) := by decide +kernel
theorem dX2_nextCell_25 : decode cX2_nextCell 25 = .ok (.irem, 1) := by decide +kernel
theorem dX2_nextCell_26 : decode cX2_nextCell 26 = .ok (.getstatic 43, 3) := by decide +kernel
theorem dX2_nextCell_29 : decode cX2_nextCell 29 = .ok (.iload_n 2, 1) := by decide +kernel
theorem dX2_nextCell_30 : decode cX2_nextCell 30 = .ok (.iaload, 1) := by decide +kernel
theorem dX2_nextCell_31 : decode cX2_nextCell 31 = .ok (.iadd, 1) := by decide +kernel
theorem dX2_nextCell_32 : decode cX2_nextCell 32 = .ok (.istore_n 3, 1) := by decide +kernel
theorem dX2_nextCell_33 : decode cX2_nextCell 33 = .ok (.iload_n 1, 1) := by decide +kernel
theorem dX2_nextCell_34 : decode cX2_nextCell 34 = .ok (.bipush 16, 2) := by decide +kernel
theorem dX2_nextCell_36 : decode cX2_nextCell 36 = .ok (.idiv, 1) := by decide +kernel
theorem dX2_nextCell_37 : decode cX2_nextCell 37 = .ok (.getstatic 47, 3) := by decide +kernel
theorem dX2_nextCell_40 : decode cX2_nextCell 40 = .ok (.iload_n 2, 1) := by decide +kernel
theorem dX2_nextCell_41 : decode cX2_nextCell 41 = .ok (.iaload, 1) := by decide +kernel
theorem dX2_nextCell_42 : decode cX2_nextCell 42 = .ok (.iadd, 1) := by decide +kernel
theorem dX2_nextCell_43 : decode cX2_nextCell 43 = .ok (.istore 4, 2) := by decide +kernel
theorem dX2_nextCell_45 : decode cX2_nextCell 45 = .ok (.iload_n 3, 1) := by decide +kernel
theorem dX2_nextCell_46 : decode cX2_nextCell 46 = .ok (.bipush 15, 2) := by decide +kernel
theorem dX2_nextCell_48 : decode cX2_nextCell 48 = .ok (.invokestatic 23, 3) := by decide +kernel
theorem dX2_nextCell_51 : decode cX2_nextCell 51 = .ok (.ifCond .ne 13, 3) := by decide +kernel
theorem dX2_nextCell_54 : decode cX2_nextCell 54 = .ok (.iload 4, 2) := by decide +kernel
theorem dX2_nextCell_56 : decode cX2_nextCell 56 = .ok (.bipush 9, 2) := by decide +kernel
theorem dX2_nextCell_58 : decode cX2_nextCell 58 = .ok (.invokestatic 23, 3) := by decide +kernel
theorem dX2_nextCell_61 : decode cX2_nextCell 61 = .ok (.ifCond .eq 6, 3) := by decide +kernel
theorem dX2_nextCell_64 : decode cX2_nextCell 64 = .ok (.bipush (-9), 2) := by decide +kernel
theorem dX2_nextCell_66 : decode cX2_nextCell 66 = .ok (.ireturn, 1) := by decide +kernel
theorem dX2_nextCell_67 : decode cX2_nextCell 67 = .ok (.bipush 16, 2) := by decide +kernel
theorem dX2_nextCell_69 : decode cX2_nextCell 69 = .ok (.iload 4, 2) := by decide +kernel
theorem dX2_nextCell_71 : decode cX2_nextCell 71 = .ok (.imul, 1) := by decide +kernel
theorem dX2_nextCell_72 : decode cX2_nextCell 72 = .ok (.iload_n 3, 1) := by decide +kernel
theorem dX2_nextCell_73 : decode cX2_nextCell 73 = .ok (.iadd, 1) := by decide +kernel
theorem dX2_nextCell_74 : decode cX2_nextCell 74 = .ok (.istore 5, 2) := by decide +kernel
theorem dX2_nextCell_76 : decode cX2_nextCell 76 = .ok (.aload_n 0, 1) := by decide +kernel
theorem dX2_nextCell_77 : decode cX2_nextCell 77 = .ok (.iload 5, 2) := by decide +kernel
theorem dX2_nextCell_79 : decode cX2_nextCell 79 = .ok (.invokevirtual 50, 3) := by decide +kernel
theorem dX2_nextCell_82 : decode cX2_nextCell 82 = .ok (.ifCond .eq 8, 3) := by decide +kernel
theorem dX2_nextCell_85 : decode cX2_nextCell 85 = .ok (.bipush (-9), 2) := by decide +kernel
theorem dX2_nextCell_87 : decode cX2_nextCell 87 = .ok (.goto 5, 3) := by decide +kernel
theorem dX2_nextCell_90 : decode cX2_nextCell 90 = .ok (.iload 5, 2) := by decide +kernel
theorem dX2_nextCell_92 : decode cX2_nextCell 92 = .ok (.ireturn, 1) := by decide +kernel
set_option maxRecDepth 20000 in
theorem ggX2_digestChart_X2_hasChart : GoodIn wsX2_digestChart wsX2_hasChart := goodIn_r _ [6, 7, 8, 9, 10, 16, 17, 18] (by decide +kernel) (by decide +kernel)
set_option maxRecDepth 20000 in
theorem gX2_digestChart_X2_hasChart : GoodIn wsX2_digestChart (wsV RX2 33 RX2 yX2_hasChart wsX2_hasChart) := goodIn_app (goodIn_of _ (by decide +kernel)) ggX2_digestChart_X2_hasChart
set_option maxRecDepth 20000 in
theorem ggX2_digestChart_X2_drawnAt : GoodIn wsX2_digestChart wsX2_drawnAt := goodIn_r _ [14, 15, 2, 3, 4, 5, 6, 7, 8, 9, 10, 16, 17, 18] (by decide +kernel) (by decide +kernel)
set_option maxRecDepth 20000 in
theorem gX2_digestChart_X2_drawnAt : GoodIn wsX2_digestChart (wsV RX2 55 RX2 yX2_drawnAt wsX2_drawnAt) := goodIn_app (goodIn_of _ (by decide +kernel)) ggX2_digestChart_X2_drawnAt
theorem dX2_digestChart_0 : decode cX2_digestChart 0 = .ok (.aload_n 0, 1) := by decide +kernel
theorem dX2_digestChart_1 : decode cX2_digestChart 1 = .ok (.iload_n 1, 1) := by decide +kernel
theorem dX2_digestChart_2 : decode cX2_digestChart 2 = .ok (.invokevirtual 33, 3) := by decide +kernel
theorem dX2_digestChart_5 : decode cX2_digestChart 5 = .ok (.ifCond .ne 11, 3) := by decide +kernel
theorem dX2_digestChart_8 : decode cX2_digestChart 8 = .ok (.ldc2_w 53, 3) := by decide +kernel
theorem dX2_digestChart_11 : decode cX2_digestChart 11 = .ok (.lload_n 2, 1) := by decide +kernel
theorem dX2_digestChart_12 : decode cX2_digestChart 12 = .ok (.lmul, 1) := by decide +kernel
theorem dX2_digestChart_13 : decode cX2_digestChart 13 = .ok (.lconst 1, 1) := by decide +kernel
theorem dX2_digestChart_14 : decode cX2_digestChart 14 = .ok (.lsub, 1) := by decide +kernel
theorem dX2_digestChart_15 : decode cX2_digestChart 15 = .ok (.lreturn, 1) := by decide +kernel
theorem dX2_digestChart_16 : decode cX2_digestChart 16 = .ok (.lload_n 2, 1) := by decide +kernel
theorem dX2_digestChart_17 : decode cX2_digestChart 17 = .ok (.lstore 4, 2) := by decide +kernel
theorem dX2_digestChart_19 : decode cX2_digestChart 19 = .ok (.iconst 0, 1) := by decide +kernel
theorem dX2_digestChart_20 : decode cX2_digestChart 20 = .ok (.istore 6, 2) := by decide +kernel
theorem dX2_digestChart_22 : decode cX2_digestChart 22 = .ok (.iload 6, 2) := by decide +kernel
theorem dX2_digestChart_24 : decode cX2_digestChart 24 = .ok (.sipush 160, 3) := by decide +kernel
theorem dX2_digestChart_27 : decode cX2_digestChart 27 = .ok (.if_icmp .ge 26, 3) := by decide +kernel
theorem dX2_digestChart_30 : decode cX2_digestChart 30 = .ok (.ldc2_w 53, 3) := by decide +kernel
theorem dX2_digestChart_33 : decode cX2_digestChart 33 = .ok (.lload 4, 2) := by decide +kernel
theorem dX2_digestChart_35 : decode cX2_digestChart 35 = .ok (.lmul, 1) := by decide +kernel
theorem dX2_digestChart_36 : decode cX2_digestChart 36 = .ok (.aload_n 0, 1) := by decide +kernel
theorem dX2_digestChart_37 : decode cX2_digestChart 37 = .ok (.iload_n 1, 1) := by decide +kernel
theorem dX2_digestChart_38 : decode cX2_digestChart 38 = .ok (.iload 6, 2) := by decide +kernel
theorem dX2_digestChart_40 : decode cX2_digestChart 40 = .ok (.invokevirtual 55, 3) := by decide +kernel
theorem dX2_digestChart_43 : decode cX2_digestChart 43 = .ok (.i2l, 1) := by decide +kernel
theorem dX2_digestChart_44 : decode cX2_digestChart 44 = .ok (.ladd, 1) := by decide +kernel
theorem dX2_digestChart_45 : decode cX2_digestChart 45 = .ok (.lstore 4, 2) := by decide +kernel
theorem dX2_digestChart_47 : decode cX2_digestChart 47 = .ok (.iinc 6 1, 3) := by decide +kernel
theorem dX2_digestChart_50 : decode cX2_digestChart 50 = .ok (.goto (-28), 3) := by decide +kernel
theorem dX2_digestChart_53 : decode cX2_digestChart 53 = .ok (.lload 4, 2) := by decide +kernel
theorem dX2_digestChart_55 : decode cX2_digestChart 55 = .ok (.lreturn, 1) := by decide +kernel
set_option maxRecDepth 20000 in
theorem ggX3_init_Jx4a65c_init_da8c8 : GoodIn wsX3_init wsJx4a65c_init_da8c8 := goodIn_r _ [23, 24, 25, 26, 27, 28, 29, 30, 31, 32, 33, 34, 35, 2, 3, 36, 37, 38] (by decide +kernel) (by decide +kernel)
set_option maxRecDepth 20000 in
theorem gX3_init_Jx4a65c_init_da8c8 : GoodIn wsX3_init (wsJx4a65c_init_da8c8) := ggX3_init_Jx4a65c_init_da8c8
theorem dX3_init_0 : decode cX3_init 0 = .ok (.aload_n 0, 1) := by decide +kernel
theorem dX3_init_1 : decode cX3_init 1 = .ok (.invokespecial 3, 3) := by decide +kernel
theorem dX3_init_4 : decode cX3_init 4 = .ok (.aload_n 0, 1) := by decide +kernel
theorem dX3_init_5 : decode cX3_init 5 = .ok (.new 9, 3) := by decide +kernel
theorem dX3_init_8 : decode cX3_init 8 = .ok (.dup, 1) := by decide +kernel
theorem dX3_init_9 : decode cX3_init 9 = .ok (.invokespecial 11, 3) := by decide +kernel
theorem dX3_init_12 : decode cX3_init 12 = .ok (.putfield 12, 3) := by decide +kernel
theorem dX3_init_15 : decode cX3_init 15 = .ok (.aload_n 0, 1) := by decide +kernel
theorem dX3_init_16 : decode cX3_init 16 = .ok (.new 9, 3) := by decide +kernel
theorem dX3_init_19 : decode cX3_init 19 = .ok (.dup, 1) := by decide +kernel
theorem dX3_init_20 : decode cX3_init 20 = .ok (.invokespecial 11, 3) := by decide +kernel
theorem dX3_init_23 : decode cX3_init 23 = .ok (.putfield 18, 3) := by decide +kernel
theorem dX3_init_26 : decode cX3_init 26 = .ok (.aload_n 0, 1) := by decide +kernel
theorem dX3_init_27 : decode cX3_init 27 = .ok (.iconst 0, 1) := by decide +kernel
theorem dX3_init_28 : decode cX3_init 28 = .ok (.putfield 21, 3) := by decide +kernel
theorem dX3_init_31 : decode cX3_init 31 = .ok (.aload_n 0, 1) := by decide +kernel
theorem dX3_init_32 : decode cX3_init 32 = .ok (.iconst 0, 1) := by decide +kernel
theorem dX3_init_33 : decode cX3_init 33 = .ok (.putfield 25, 3) := by decide +kernel
theorem dX3_init_36 : decode cX3_init 36 = .ok (.aload_n 0, 1) := by decide +kernel
theorem dX3_init_37 : decode cX3_init 37 = .ok (.iconst 0, 1) := by decide +kernel
theorem dX3_init_38 : decode cX3_init 38 = .ok (.putfield 28, 3) := by decide +kernel
theorem dX3_init_41 : decode cX3_init 41 = .ok (.aload_n 0, 1) := by decide +kernel
theorem dX3_init_42 : decode cX3_init 42 = .ok (.iconst 0, 1) := by decide +kernel
theorem dX3_init_43 : decode cX3_init 43 = .ok (.putfield 31, 3) := by decide +kernel
theorem dX3_init_46 : decode cX3_init 46 = .ok (.aload_n 0, 1) := by decide +kernel
theorem dX3_init_47 : decode cX3_init 47 = .ok (.bipush (-9), 2) := by decide +kernel
theorem dX3_init_49 : decode cX3_init 49 = .ok (.putfield 34, 3) := by decide +kernel
theorem dX3_init_52 : decode cX3_init 52 = .ok (.aload_n 0, 1) := by decide +kernel
theorem dX3_init_53 : decode cX3_init 53 = .ok (.bipush (-9), 2) := by decide +kernel
theorem dX3_init_55 : decode cX3_init 55 = .ok (.putfield 37, 3) := by decide +kernel
theorem dX3_init_58 : decode cX3_init 58 = .ok (.aload_n 0, 1) := by decide +kernel
theorem dX3_init_59 : decode cX3_init 59 = .ok (.iconst 0, 1) := by decide +kernel
theorem dX3_init_60 : decode cX3_init 60 = .ok (.putfield 40, 3) := by decide +kernel
theorem dX3_init_63 : decode cX3_init 63 = .ok (.aload_n 0, 1) := by decide +kernel
theorem dX3_init_64 : decode cX3_init 64 = .ok (.iconst 0, 1) := by decide +kernel
theorem dX3_init_65 : decode cX3_init 65 = .ok (.putfield 43, 3) := by decide +kernel
theorem dX3_init_68 : decode cX3_init 68 = .ok (.aload_n 0, 1) := by decide +kernel
theorem dX3_init_69 : decode cX3_init 69 = .ok (.iload_n 1, 1) := by decide +kernel
theorem dX3_init_70 : decode cX3_init 70 = .ok (.putfield 46, 3) := by decide +kernel
theorem dX3_init_73 : decode cX3_init 73 = .ok (.aload_n 0, 1) := by decide +kernel
theorem dX3_init_74 : decode cX3_init 74 = .ok (.iload_n 2, 1) := by decide +kernel
theorem dX3_init_75 : decode cX3_init 75 = .ok (.putfield 49, 3) := by decide +kernel
theorem dX3_init_78 : decode cX3_init 78 = .ok (.aload_n 0, 1) := by decide +kernel
theorem dX3_init_79 : decode cX3_init 79 = .ok (.iload_n 3, 1) := by decide +kernel
theorem dX3_init_80 : decode cX3_init 80 = .ok (.putfield 52, 3) := by decide +kernel
theorem dX3_init_83 : decode cX3_init 83 = .ok (.aload_n 0, 1) := by decide +kernel
theorem dX3_init_84 : decode cX3_init 84 = .ok (.iload 4, 2) := by decide +kernel
theorem dX3_init_86 : decode cX3_init 86 = .ok (.putfield 55, 3) := by decide +kernel
theorem dX3_init_89 : decode cX3_init 89 = .ok (.return_, 1) := by decide +kernel
theorem dX3_isHome_0 : decode cX3_isHome 0 = .ok (.aload_n 0, 1) := by decide +kernel
theorem dX3_isHome_1 : decode cX3_isHome 1 = .ok (.getfield 34, 3) := by decide +kernel
theorem dX3_isHome_4 : decode cX3_isHome 4 = .ok (.bipush (-9), 2) := by decide +kernel
theorem dX3_isHome_6 : decode cX3_isHome 6 = .ok (.if_icmp .eq 7, 3) := by decide +kernel
theorem dX3_isHome_9 : decode cX3_isHome 9 = .ok (.iconst 1, 1) := by decide +kernel
theorem dX3_isHome_10 : decode cX3_isHome 10 = .ok (.goto 4, 3) := by decide +kernel
theorem dX3_isHome_13 : decode cX3_isHome 13 = .ok (.iconst 0, 1) := by decide +kernel
end
section
theorem dX3_isHome_14 : decode cX3_isHome 14 = .ok (.ireturn, 1) := by decide +kernel
theorem dX3_isOf_0 : decode cX3_isOf 0 = .ok (.aload_n 0, 1) := by decide +kernel
theorem dX3_isOf_1 : decode cX3_isOf 1 = .ok (.getfield 49, 3) := by decide +kernel
theorem dX3_isOf_4 : decode cX3_isOf 4 = .ok (.iload_n 1, 1) := by decide +kernel
theorem dX3_isOf_5 : decode cX3_isOf 5 = .ok (.if_icmp .eq 16, 3) := by decide +kernel
theorem dX3_isOf_8 : decode cX3_isOf 8 = .ok (.aload_n 0, 1) := by decide +kernel
theorem dX3_isOf_9 : decode cX3_isOf 9 = .ok (.getfield 49, 3) := by decide +kernel
theorem dX3_isOf_12 : decode cX3_isOf 12 = .ok (.iconst 3, 1) := by decide +kernel
theorem dX3_isOf_13 : decode cX3_isOf 13 = .ok (.if_icmp .ne 12, 3) := by decide +kernel
theorem dX3_isOf_16 : decode cX3_isOf 16 = .ok (.iload_n 1, 1) := by decide +kernel
theorem dX3_isOf_17 : decode cX3_isOf 17 = .ok (.iconst 1, 1) := by decide +kernel
theorem dX3_isOf_18 : decode cX3_isOf 18 = .ok (.if_icmp .ne 7, 3) := by decide +kernel
theorem dX3_isOf_21 : decode cX3_isOf 21 = .ok (.iconst 1, 1) := by decide +kernel
theorem dX3_isOf_22 : decode cX3_isOf 22 = .ok (.goto 4, 3) := by decide +kernel
theorem dX3_isOf_25 : decode cX3_isOf 25 = .ok (.iconst 0, 1) := by decide +kernel
theorem dX3_isOf_26 : decode cX3_isOf 26 = .ok (.ireturn, 1) := by decide +kernel
set_option maxRecDepth 20000 in
theorem ggX3_speedIn_X5_eighthsBetween : GoodIn wsX3_speedIn wsX5_eighthsBetween := goodIn_r _ [9, 10, 11, 5, 12, 13, 14, 15] (by decide +kernel) (by decide +kernel)
set_option maxRecDepth 20000 in
theorem gX3_speedIn_X5_eighthsBetween_n58 : GoodIn wsX3_speedIn (wsX5_eighthsBetween) := ggX3_speedIn_X5_eighthsBetween
set_option maxRecDepth 20000 in
theorem ggX3_speedIn_X5_strengthOf : GoodIn wsX3_speedIn wsX5_strengthOf := goodIn_r _ [17] (by decide +kernel) (by decide +kernel)
set_option maxRecDepth 20000 in
theorem gX3_speedIn_X5_strengthOf_n62 : GoodIn wsX3_speedIn (wsX5_strengthOf) := ggX3_speedIn_X5_strengthOf
set_option maxRecDepth 20000 in
theorem ggX3_speedIn_X3_sailSpeed : GoodIn wsX3_speedIn wsX3_sailSpeed := goodIn_r _ [22, 23, 24, 25, 21, 26, 1, 27, 28, 29, 30, 31, 32, 33, 34, 35, 36, 37, 38, 39, 40] (by decide +kernel) (by decide +kernel)
set_option maxRecDepth 20000 in
theorem gX3_speedIn_X3_sailSpeed : GoodIn wsX3_speedIn (wsV RX3 66 RX3 yX3_sailSpeed wsX3_sailSpeed) := goodIn_app (goodIn_of _ (by decide +kernel)) ggX3_speedIn_X3_sailSpeed
theorem dX3_speedIn_0 : decode cX3_speedIn 0 = .ok (.aload_n 0, 1) := by decide +kernel
theorem dX3_speedIn_1 : decode cX3_speedIn 1 = .ok (.getfield 49, 3) := by decide +kernel
theorem dX3_speedIn_4 : decode cX3_speedIn 4 = .ok (.iconst 2, 1) := by decide +kernel
theorem dX3_speedIn_5 : decode cX3_speedIn 5 = .ok (.if_icmp .ne 8, 3) := by decide +kernel
theorem dX3_speedIn_8 : decode cX3_speedIn 8 = .ok (.bipush 8, 2) := by decide +kernel
theorem dX3_speedIn_10 : decode cX3_speedIn 10 = .ok (.goto 19, 3) := by decide +kernel
theorem dX3_speedIn_13 : decode cX3_speedIn 13 = .ok (.aload_n 0, 1) := by decide +kernel
theorem dX3_speedIn_14 : decode cX3_speedIn 14 = .ok (.iload_n 1, 1) := by decide +kernel
theorem dX3_speedIn_15 : decode cX3_speedIn 15 = .ok (.iload_n 2, 1) := by decide +kernel
theorem dX3_speedIn_16 : decode cX3_speedIn 16 = .ok (.bipush 10, 2) := by decide +kernel
theorem dX3_speedIn_18 : decode cX3_speedIn 18 = .ok (.idiv, 1) := by decide +kernel
theorem dX3_speedIn_19 : decode cX3_speedIn 19 = .ok (.invokestatic 58, 3) := by decide +kernel
theorem dX3_speedIn_22 : decode cX3_speedIn 22 = .ok (.iload_n 2, 1) := by decide +kernel
theorem dX3_speedIn_23 : decode cX3_speedIn 23 = .ok (.invokestatic 62, 3) := by decide +kernel
theorem dX3_speedIn_26 : decode cX3_speedIn 26 = .ok (.invokevirtual 66, 3) := by decide +kernel
theorem dX3_speedIn_29 : decode cX3_speedIn 29 = .ok (.istore_n 3, 1) := by decide +kernel
theorem dX3_speedIn_30 : decode cX3_speedIn 30 = .ok (.iconst 0, 1) := by decide +kernel
theorem dX3_speedIn_31 : decode cX3_speedIn 31 = .ok (.iload_n 3, 1) := by decide +kernel
theorem dX3_speedIn_32 : decode cX3_speedIn 32 = .ok (.aload_n 0, 1) := by decide +kernel
theorem dX3_speedIn_33 : decode cX3_speedIn 33 = .ok (.getfield 28, 3) := by decide +kernel
theorem dX3_speedIn_36 : decode cX3_speedIn 36 = .ok (.isub, 1) := by decide +kernel
theorem dX3_speedIn_37 : decode cX3_speedIn 37 = .ok (.invokestatic 69, 3) := by decide +kernel
theorem dX3_speedIn_40 : decode cX3_speedIn 40 = .ok (.ireturn, 1) := by decide +kernel
set_option maxRecDepth 20000 in
theorem ggX3_sailSpeed_X3_moreAcrossTheWind : GoodIn wsX3_sailSpeed wsX3_moreAcrossTheWind := goodIn_r _ [5, 6, 7, 8, 9, 10, 11, 12, 13, 14, 15, 16, 17, 18, 19, 20] (by decide +kernel) (by decide +kernel)
set_option maxRecDepth 20000 in
theorem gX3_sailSpeed_X3_moreAcrossTheWind : GoodIn wsX3_sailSpeed (wsV RX3 74 RX3 yX3_moreAcrossTheWind wsX3_moreAcrossTheWind) := goodIn_app (goodIn_of _ (by decide +kernel)) ggX3_sailSpeed_X3_moreAcrossTheWind
theorem dX3_sailSpeed_0 : decode cX3_sailSpeed 0 = .ok (.iload_n 1, 1) := by decide +kernel
theorem dX3_sailSpeed_1 : decode cX3_sailSpeed 1 = .ok (.tableswitch 55 1 4 #[31, 33, 42, 51], 31) := by decide +kernel
theorem dX3_sailSpeed_32 : decode cX3_sailSpeed 32 = .ok (.iload_n 2, 1) := by decide +kernel
theorem dX3_sailSpeed_33 : decode cX3_sailSpeed 33 = .ok (.ireturn, 1) := by decide +kernel
theorem dX3_sailSpeed_34 : decode cX3_sailSpeed 34 = .ok (.iconst 2, 1) := by decide +kernel
theorem dX3_sailSpeed_35 : decode cX3_sailSpeed 35 = .ok (.aload_n 0, 1) := by decide +kernel
theorem dX3_sailSpeed_36 : decode cX3_sailSpeed 36 = .ok (.invokevirtual 74, 3) := by decide +kernel
theorem dX3_sailSpeed_39 : decode cX3_sailSpeed 39 = .ok (.iadd, 1) := by decide +kernel
theorem dX3_sailSpeed_40 : decode cX3_sailSpeed 40 = .ok (.iload_n 2, 1) := by decide +kernel
theorem dX3_sailSpeed_41 : decode cX3_sailSpeed 41 = .ok (.imul, 1) := by decide +kernel
theorem dX3_sailSpeed_42 : decode cX3_sailSpeed 42 = .ok (.ireturn, 1) := by decide +kernel
theorem dX3_sailSpeed_43 : decode cX3_sailSpeed 43 = .ok (.iconst 3, 1) := by decide +kernel
theorem dX3_sailSpeed_44 : decode cX3_sailSpeed 44 = .ok (.aload_n 0, 1) := by decide +kernel
theorem dX3_sailSpeed_45 : decode cX3_sailSpeed 45 = .ok (.invokevirtual 74, 3) := by decide +kernel
theorem dX3_sailSpeed_48 : decode cX3_sailSpeed 48 = .ok (.iadd, 1) := by decide +kernel
theorem dX3_sailSpeed_49 : decode cX3_sailSpeed 49 = .ok (.iload_n 2, 1) := by decide +kernel
theorem dX3_sailSpeed_50 : decode cX3_sailSpeed 50 = .ok (.imul, 1) := by decide +kernel
theorem dX3_sailSpeed_51 : decode cX3_sailSpeed 51 = .ok (.ireturn, 1) := by decide +kernel
theorem dX3_sailSpeed_52 : decode cX3_sailSpeed 52 = .ok (.iconst 2, 1) := by decide +kernel
theorem dX3_sailSpeed_53 : decode cX3_sailSpeed 53 = .ok (.iload_n 2, 1) := by decide +kernel
theorem dX3_sailSpeed_54 : decode cX3_sailSpeed 54 = .ok (.imul, 1) := by decide +kernel
theorem dX3_sailSpeed_55 : decode cX3_sailSpeed 55 = .ok (.ireturn, 1) := by decide +kernel
theorem dX3_sailSpeed_56 : decode cX3_sailSpeed 56 = .ok (.iconst 0, 1) := by decide +kernel
theorem dX3_sailSpeed_57 : decode cX3_sailSpeed 57 = .ok (.ireturn, 1) := by decide +kernel
theorem dX3_moreAcrossTheWind_0 : decode cX3_moreAcrossTheWind 0 = .ok (.aload_n 0, 1) := by decide +kernel
theorem dX3_moreAcrossTheWind_1 : decode cX3_moreAcrossTheWind 1 = .ok (.getfield 49, 3) := by decide +kernel
theorem dX3_moreAcrossTheWind_4 : decode cX3_moreAcrossTheWind 4 = .ok (.iconst 3, 1) := by decide +kernel
theorem dX3_moreAcrossTheWind_5 : decode cX3_moreAcrossTheWind 5 = .ok (.if_icmp .ne 5, 3) := by decide +kernel
theorem dX3_moreAcrossTheWind_8 : decode cX3_moreAcrossTheWind 8 = .ok (.iconst 2, 1) := by decide +kernel
theorem dX3_moreAcrossTheWind_9 : decode cX3_moreAcrossTheWind 9 = .ok (.ireturn, 1) := by decide +kernel
theorem dX3_moreAcrossTheWind_10 : decode cX3_moreAcrossTheWind 10 = .ok (.aload_n 0, 1) := by decide +kernel
theorem dX3_moreAcrossTheWind_11 : decode cX3_moreAcrossTheWind 11 = .ok (.getfield 49, 3) := by decide +kernel
theorem dX3_moreAcrossTheWind_14 : decode cX3_moreAcrossTheWind 14 = .ok (.iconst 1, 1) := by decide +kernel
theorem dX3_moreAcrossTheWind_15 : decode cX3_moreAcrossTheWind 15 = .ok (.if_icmp .ne 7, 3) := by decide +kernel
theorem dX3_moreAcrossTheWind_18 : decode cX3_moreAcrossTheWind 18 = .ok (.iconst 1, 1) := by decide +kernel
theorem dX3_moreAcrossTheWind_19 : decode cX3_moreAcrossTheWind 19 = .ok (.goto 4, 3) := by decide +kernel
theorem dX3_moreAcrossTheWind_22 : decode cX3_moreAcrossTheWind 22 = .ok (.iconst 0, 1) := by decide +kernel
theorem dX3_moreAcrossTheWind_23 : decode cX3_moreAcrossTheWind 23 = .ok (.ireturn, 1) := by decide +kernel
set_option maxRecDepth 20000 in
theorem ggX3_askWay_Jx4a65c_size_8abf5 : GoodIn wsX3_askWay wsJx4a65c_size_8abf5 := goodIn_r _ [10, 11, 62, 63, 64] (by decide +kernel) (by decide +kernel)
set_option maxRecDepth 20000 in
theorem gX3_askWay_Jx4a65c_size_8abf5_f78Jx4a65c : GoodIn wsX3_askWay (va_wsF RX3 78 RJx4a65c ⟨"java/util/List", "size", "()I"⟩ yJx4a65c_size_8abf5 wsJx4a65c_size_8abf5) := goodIn_app (goodIn_of _ (by decide +kernel)) ggX3_askWay_Jx4a65c_size_8abf5
set_option maxRecDepth 20000 in
theorem ggX3_askWay_Jx4a65c_get_915e3 : GoodIn wsX3_askWay wsJx4a65c_get_915e3 := goodIn_r _ [15, 11, 16, 17, 18, 19, 20, 21, 22, 23, 24, 25, 26, 9, 27, 28, 62, 63, 64] (by decide +kernel) (by decide +kernel)
set_option maxRecDepth 20000 in
theorem gX3_askWay_Jx4a65c_get_915e3_f83Jx4a65c : GoodIn wsX3_askWay (va_wsF RX3 83 RJx4a65c ⟨"java/util/List", "get", "(I)Ljava/lang/Object;"⟩ yJx4a65c_get_915e3 wsJx4a65c_get_915e3) := goodIn_app (goodIn_of _ (by decide +kernel)) ggX3_askWay_Jx4a65c_get_915e3
set_option maxRecDepth 20000 in
theorem ggX3_askWay_X5_strengthOf : GoodIn wsX3_askWay wsX5_strengthOf := goodIn_r _ [31] (by decide +kernel) (by decide +kernel)
set_option maxRecDepth 20000 in
theorem gX3_askWay_X5_strengthOf_n62 : GoodIn wsX3_askWay (wsX5_strengthOf) := ggX3_askWay_X5_strengthOf
set_option maxRecDepth 20000 in
theorem ggX3_askWay_X0_fits : GoodIn wsX3_askWay wsX0_fits := goodIn_r _ [36, 37, 38, 39, 40, 41, 56, 57, 58, 59, 60, 61] (by decide +kernel) (by decide +kernel)
set_option maxRecDepth 20000 in
theorem gX3_askWay_X0_fits : GoodIn wsX3_askWay (wsV RX3 89 RX0 yX0_fits wsX0_fits) := goodIn_app (goodIn_of _ (by decide +kernel)) ggX3_askWay_X0_fits
theorem dX3_askWay_0 : decode cX3_askWay 0 = .ok (.iconst 0, 1) := by decide +kernel
theorem dX3_askWay_1 : decode cX3_askWay 1 = .ok (.istore_n 2, 1) := by decide +kernel
theorem dX3_askWay_2 : decode cX3_askWay 2 = .ok (.iload_n 2, 1) := by decide +kernel
theorem dX3_askWay_3 : decode cX3_askWay 3 = .ok (.aload_n 0, 1) := by decide +kernel
theorem dX3_askWay_4 : decode cX3_askWay 4 = .ok (.getfield 12, 3) := by decide +kernel
theorem dX3_askWay_7 : decode cX3_askWay 7 = .ok (.invokeinterface 78 1, 5) := by decide +kernel
theorem dX3_askWay_12 : decode cX3_askWay 12 = .ok (.if_icmp .ge 47, 3) := by decide +kernel
theorem dX3_askWay_15 : decode cX3_askWay 15 = .ok (.aload_n 0, 1) := by decide +kernel
theorem dX3_askWay_16 : decode cX3_askWay 16 = .ok (.getfield 12, 3) := by decide +kernel
theorem dX3_askWay_19 : decode cX3_askWay 19 = .ok (.iload_n 2, 1) := by decide +kernel
theorem dX3_askWay_20 : decode cX3_askWay 20 = .ok (.invokeinterface 83 2, 5) := by decide +kernel
theorem dX3_askWay_25 : decode cX3_askWay 25 = .ok (.checkcast 87, 3) := by decide +kernel
theorem dX3_askWay_28 : decode cX3_askWay 28 = .ok (.astore_n 3, 1) := by decide +kernel
theorem dX3_askWay_29 : decode cX3_askWay 29 = .ok (.aload_n 3, 1) := by decide +kernel
theorem dX3_askWay_30 : decode cX3_askWay 30 = .ok (.aload_n 0, 1) := by decide +kernel
theorem dX3_askWay_31 : decode cX3_askWay 31 = .ok (.getfield 52, 3) := by decide +kernel
theorem dX3_askWay_34 : decode cX3_askWay 34 = .ok (.iload_n 1, 1) := by decide +kernel
theorem dX3_askWay_35 : decode cX3_askWay 35 = .ok (.invokestatic 62, 3) := by decide +kernel
theorem dX3_askWay_38 : decode cX3_askWay 38 = .ok (.invokevirtual 89, 3) := by decide +kernel
theorem dX3_askWay_41 : decode cX3_askWay 41 = .ok (.ifCond .eq 12, 3) := by decide +kernel
theorem dX3_askWay_44 : decode cX3_askWay 44 = .ok (.aload_n 0, 1) := by decide +kernel
theorem dX3_askWay_45 : decode cX3_askWay 45 = .ok (.aload_n 3, 1) := by decide +kernel
theorem dX3_askWay_46 : decode cX3_askWay 46 = .ok (.getfield 93, 3) := by decide +kernel
theorem dX3_askWay_49 : decode cX3_askWay 49 = .ok (.putfield 25, 3) := by decide +kernel
theorem dX3_askWay_52 : decode cX3_askWay 52 = .ok (.return_, 1) := by decide +kernel
theorem dX3_askWay_53 : decode cX3_askWay 53 = .ok (.iinc 2 1, 3) := by decide +kernel
theorem dX3_askWay_56 : decode cX3_askWay 56 = .ok (.goto (-54), 3) := by decide +kernel
theorem dX3_askWay_59 : decode cX3_askWay 59 = .ok (.return_, 1) := by decide +kernel
theorem dX3_beats_0 : decode cX3_beats 0 = .ok (.aload_n 0, 1) := by decide +kernel
theorem dX3_beats_1 : decode cX3_beats 1 = .ok (.getfield 37, 3) := by decide +kernel
theorem dX3_beats_4 : decode cX3_beats 4 = .ok (.aload_n 1, 1) := by decide +kernel
theorem dX3_beats_5 : decode cX3_beats 5 = .ok (.getfield 37, 3) := by decide +kernel
theorem dX3_beats_8 : decode cX3_beats 8 = .ok (.if_icmp .eq 20, 3) := by decide +kernel
theorem dX3_beats_11 : decode cX3_beats 11 = .ok (.aload_n 0, 1) := by decide +kernel
theorem dX3_beats_12 : decode cX3_beats 12 = .ok (.getfield 37, 3) := by decide +kernel
theorem dX3_beats_15 : decode cX3_beats 15 = .ok (.aload_n 1, 1) := by decide +kernel
theorem dX3_beats_16 : decode cX3_beats 16 = .ok (.getfield 37, 3) := by decide +kernel
theorem dX3_beats_19 : decode cX3_beats 19 = .ok (.if_icmp .ge 7, 3) := by decide +kernel
theorem dX3_beats_22 : decode cX3_beats 22 = .ok (.iconst 1, 1) := by decide +kernel
theorem dX3_beats_23 : decode cX3_beats 23 = .ok (.goto 4, 3) := by decide +kernel
theorem dX3_beats_26 : decode cX3_beats 26 = .ok (.iconst 0, 1) := by decide +kernel
theorem dX3_beats_27 : decode cX3_beats 27 = .ok (.ireturn, 1) := by decide +kernel
theorem dX3_beats_28 : decode cX3_beats 28 = .ok (.aload_n 0, 1) := by decide +kernel
theorem dX3_beats_29 : decode cX3_beats 29 = .ok (.getfield 34, 3) := by decide +kernel
theorem dX3_beats_32 : decode cX3_beats 32 = .ok (.aload_n 1, 1) := by decide +kernel
theorem dX3_beats_33 : decode cX3_beats 33 = .ok (.getfield 34, 3) := by decide +kernel
theorem dX3_beats_36 : decode cX3_beats 36 = .ok (.if_icmp .eq 20, 3) := by decide +kernel
theorem dX3_beats_39 : decode cX3_beats 39 = .ok (.aload_n 0, 1) := by decide +kernel
theorem dX3_beats_40 : decode cX3_beats 40 = .ok (.getfield 34, 3) := by decide +kernel
theorem dX3_beats_43 : decode cX3_beats 43 = .ok (.aload_n 1, 1) := by decide +kernel
theorem dX3_beats_44 : decode cX3_beats 44 = .ok (.getfield 34, 3) := by decide +kernel
theorem dX3_beats_47 : decode cX3_beats 47 = .ok (.if_icmp .ge 7, 3) := by decide +kernel
theorem dX3_beats_50 : decode cX3_beats 50 = .ok (.iconst 1, 1) := by decide +kernel
theorem dX3_beats_51 : decode cX3_beats 51 = .ok (.goto 4, 3) := by decide +kernel
theorem dX3_beats_54 : decode cX3_beats 54 = .ok (.iconst 0, 1) := by decide +kernel
theorem dX3_beats_55 : decode cX3_beats 55 = .ok (.ireturn, 1) := by decide +kernel
theorem dX3_beats_56 : decode cX3_beats 56 = .ok (.aload_n 0, 1) := by decide +kernel
theorem dX3_beats_57 : decode cX3_beats 57 = .ok (.getfield 46, 3) := by decide +kernel
theorem dX3_beats_60 : decode cX3_beats 60 = .ok (.aload_n 1, 1) := by decide +kernel
theorem dX3_beats_61 : decode cX3_beats 61 = .ok (.getfield 46, 3) := by decide +kernel
theorem dX3_beats_64 : decode cX3_beats 64 = .ok (.if_icmp .ge 7, 3) := by decide +kernel
theorem dX3_beats_67 : decode cX3_beats 67 = .ok (.iconst 1, 1) := by decide +kernel
theorem dX3_beats_68 : decode cX3_beats 68 = .ok (.goto 4, 3) := by decide +kernel
theorem dX3_beats_71 : decode cX3_beats 71 = .ok (.iconst 0, 1) := by decide +kernel
theorem dX3_beats_72 : decode cX3_beats 72 = .ok (.ireturn, 1) := by decide +kernel
theorem dX3_entersBefore_0 : decode cX3_entersBefore 0 = .ok (.aload_n 0, 1) := by decide +kernel
theorem dX3_entersBefore_1 : decode cX3_entersBefore 1 = .ok (.getfield 37, 3) := by decide +kernel
theorem dX3_entersBefore_4 : decode cX3_entersBefore 4 = .ok (.aload_n 1, 1) := by decide +kernel
theorem dX3_entersBefore_5 : decode cX3_entersBefore 5 = .ok (.getfield 37, 3) := by decide +kernel
theorem dX3_entersBefore_8 : decode cX3_entersBefore 8 = .ok (.if_icmp .lt 25, 3) := by decide +kernel
theorem dX3_entersBefore_11 : decode cX3_entersBefore 11 = .ok (.aload_n 0, 1) := by decide +kernel
theorem dX3_entersBefore_12 : decode cX3_entersBefore 12 = .ok (.getfield 37, 3) := by decide +kernel
theorem dX3_entersBefore_15 : decode cX3_entersBefore 15 = .ok (.aload_n 1, 1) := by decide +kernel
theorem dX3_entersBefore_16 : decode cX3_entersBefore 16 = .ok (.getfield 37, 3) := by decide +kernel
theorem dX3_entersBefore_19 : decode cX3_entersBefore 19 = .ok (.if_icmp .ne 18, 3) := by decide +kernel
theorem dX3_entersBefore_22 : decode cX3_entersBefore 22 = .ok (.aload_n 0, 1) := by decide +kernel
theorem dX3_entersBefore_23 : decode cX3_entersBefore 23 = .ok (.getfield 46, 3) := by decide +kernel
theorem dX3_entersBefore_26 : decode cX3_entersBefore 26 = .ok (.aload_n 1, 1) := by decide +kernel
theorem dX3_entersBefore_27 : decode cX3_entersBefore 27 = .ok (.getfield 46, 3) := by decide +kernel
theorem dX3_entersBefore_30 : decode cX3_entersBefore 30 = .ok (.if_icmp .ge 7, 3) := by decide +kernel
theorem dX3_entersBefore_33 : decode cX3_entersBefore 33 = .ok (.iconst 1, 1) := by decide +kernel
theorem dX3_entersBefore_34 : decode cX3_entersBefore 34 = .ok (.goto 4, 3) := by decide +kernel
theorem dX3_entersBefore_37 : decode cX3_entersBefore 37 = .ok (.iconst 0, 1) := by decide +kernel
theorem dX3_entersBefore_38 : decode cX3_entersBefore 38 = .ok (.ireturn, 1) := by decide +kernel
set_option maxRecDepth 20000 in
theorem ggX3_isUnseenFrom_X3_firstSightFrom : GoodIn wsX3_isUnseenFrom wsX3_firstSightFrom := goodIn_r _ [5, 6, 7, 8, 9, 10, 11, 12, 13, 14, 15, 16, 17, 18, 19, 20, 21, 22, 23, 24, 25, 26, 27, 28, 29, 30, 31, 32, 33, 34, 35, 36, 37, 38, 39, 40, 41, 42, 43, 44, 45, 46, 47, 48, 49, 50] (by decide +kernel) (by decide +kernel)
set_option maxRecDepth 20000 in
theorem gX3_isUnseenFrom_X3_firstSightFrom : GoodIn wsX3_isUnseenFrom (wsV RX3 94 RX3 yX3_firstSightFrom wsX3_firstSightFrom) := goodIn_app (goodIn_of _ (by decide +kernel)) ggX3_isUnseenFrom_X3_firstSightFrom
theorem dX3_isUnseenFrom_0 : decode cX3_isUnseenFrom 0 = .ok (.aload_n 0, 1) := by decide +kernel
theorem dX3_isUnseenFrom_1 : decode cX3_isUnseenFrom 1 = .ok (.iload_n 1, 1) := by decide +kernel
theorem dX3_isUnseenFrom_2 : decode cX3_isUnseenFrom 2 = .ok (.invokevirtual 94, 3) := by decide +kernel
theorem dX3_isUnseenFrom_5 : decode cX3_isUnseenFrom 5 = .ok (.ifnonnull 7, 3) := by decide +kernel
theorem dX3_isUnseenFrom_8 : decode cX3_isUnseenFrom 8 = .ok (.iconst 1, 1) := by decide +kernel
theorem dX3_isUnseenFrom_9 : decode cX3_isUnseenFrom 9 = .ok (.goto 4, 3) := by decide +kernel
theorem dX3_isUnseenFrom_12 : decode cX3_isUnseenFrom 12 = .ok (.iconst 0, 1) := by decide +kernel
theorem dX3_isUnseenFrom_13 : decode cX3_isUnseenFrom 13 = .ok (.ireturn, 1) := by decide +kernel
set_option maxRecDepth 20000 in
theorem ggX3_isSeenAround_X3_lastSightBy : GoodIn wsX3_isSeenAround wsX3_lastSightBy := goodIn_r _ [5, 6, 7, 8, 9, 10, 11, 12, 13, 14, 15, 16, 17, 18, 19, 20, 21, 22, 23, 24, 25, 26, 27, 28, 29, 30, 31, 36, 37, 38, 39, 40, 41, 42, 43, 44, 45, 46, 47, 48, 49, 50, 51, 52, 53, 54] (by decide +kernel) (by decide +kernel)
set_option maxRecDepth 20000 in
theorem gX3_isSeenAround_X3_lastSightBy : GoodIn wsX3_isSeenAround (wsV RX3 98 RX3 yX3_lastSightBy wsX3_lastSightBy) := goodIn_app (goodIn_of _ (by decide +kernel)) ggX3_isSeenAround_X3_lastSightBy
set_option maxRecDepth 20000 in
theorem ggX3_isSeenAround_X3_firstSightFrom : GoodIn wsX3_isSeenAround wsX3_firstSightFrom := goodIn_r _ [35, 6, 7, 8, 9, 10, 11, 12, 13, 14, 15, 16, 17, 18, 19, 20, 21, 22, 23, 24, 25, 26, 27, 28, 29, 30, 31, 36, 37, 38, 39, 40, 41, 42, 43, 44, 45, 46, 47, 48, 49, 50, 51, 52, 53, 54] (by decide +kernel) (by decide +kernel)
set_option maxRecDepth 20000 in
theorem gX3_isSeenAround_X3_firstSightFrom : GoodIn wsX3_isSeenAround (wsV RX3 94 RX3 yX3_firstSightFrom wsX3_firstSightFrom) := goodIn_app (goodIn_of _ (by decide +kernel)) ggX3_isSeenAround_X3_firstSightFrom
theorem dX3_isSeenAround_0 : decode cX3_isSeenAround 0 = .ok (.aload_n 0, 1) := by decide +kernel
theorem dX3_isSeenAround_1 : decode cX3_isSeenAround 1 = .ok (.iload_n 1, 1) := by decide +kernel
theorem dX3_isSeenAround_2 : decode cX3_isSeenAround 2 = .ok (.invokevirtual 98, 3) := by decide +kernel
theorem dX3_isSeenAround_5 : decode cX3_isSeenAround 5 = .ok (.ifnull 15, 3) := by decide +kernel
theorem dX3_isSeenAround_8 : decode cX3_isSeenAround 8 = .ok (.aload_n 0, 1) := by decide +kernel
theorem dX3_isSeenAround_9 : decode cX3_isSeenAround 9 = .ok (.iload_n 1, 1) := by decide +kernel
theorem dX3_isSeenAround_10 : decode cX3_isSeenAround 10 = .ok (.invokevirtual 94, 3) := by decide +kernel
theorem dX3_isSeenAround_13 : decode cX3_isSeenAround 13 = .ok (.ifnull 7, 3) := by decide +kernel
theorem dX3_isSeenAround_16 : decode cX3_isSeenAround 16 = .ok (.iconst 1, 1) := by decide +kernel
theorem dX3_isSeenAround_17 : decode cX3_isSeenAround 17 = .ok (.goto 4, 3) := by decide +kernel
theorem dX3_isSeenAround_20 : decode cX3_isSeenAround 20 = .ok (.iconst 0, 1) := by decide +kernel
theorem dX3_isSeenAround_21 : decode cX3_isSeenAround 21 = .ok (.ireturn, 1) := by decide +kernel
set_option maxRecDepth 20000 in
theorem ggX3_lastSightBy_Jx4a65c_size_8abf5 : GoodIn wsX3_lastSightBy wsJx4a65c_size_8abf5 := goodIn_r _ [8, 9, 43, 44, 45] (by decide +kernel) (by decide +kernel)
set_option maxRecDepth 20000 in
theorem gX3_lastSightBy_Jx4a65c_size_8abf5_f78Jx4a65c : GoodIn wsX3_lastSightBy (va_wsF RX3 78 RJx4a65c ⟨"java/util/List", "size", "()I"⟩ yJx4a65c_size_8abf5 wsJx4a65c_size_8abf5) := goodIn_app (goodIn_of _ (by decide +kernel)) ggX3_lastSightBy_Jx4a65c_size_8abf5
set_option maxRecDepth 20000 in
theorem ggX3_lastSightBy_Jx4a65c_get_915e3 : GoodIn wsX3_lastSightBy wsJx4a65c_get_915e3 := goodIn_r _ [13, 9, 14, 15, 16, 17, 18, 19, 20, 21, 22, 23, 24, 7, 25, 26, 43, 44, 45] (by decide +kernel) (by decide +kernel)
set_option maxRecDepth 20000 in
theorem gX3_lastSightBy_Jx4a65c_get_915e3_f83Jx4a65c : GoodIn wsX3_lastSightBy (va_wsF RX3 83 RJx4a65c ⟨"java/util/List", "get", "(I)Ljava/lang/Object;"⟩ yJx4a65c_get_915e3 wsJx4a65c_get_915e3) := goodIn_app (goodIn_of _ (by decide +kernel)) ggX3_lastSightBy_Jx4a65c_get_915e3
theorem dX3_lastSightBy_0 : decode cX3_lastSightBy 0 = .ok (.aconst_null, 1) := by decide +kernel
theorem dX3_lastSightBy_1 : decode cX3_lastSightBy 1 = .ok (.astore_n 2, 1) := by decide +kernel
theorem dX3_lastSightBy_2 : decode cX3_lastSightBy 2 = .ok (.iconst 0, 1) := by decide +kernel
theorem dX3_lastSightBy_3 : decode cX3_lastSightBy 3 = .ok (.istore_n 3, 1) := by decide +kernel
theorem dX3_lastSightBy_4 : decode cX3_lastSightBy 4 = .ok (.iload_n 3, 1) := by decide +kernel
theorem dX3_lastSightBy_5 : decode cX3_lastSightBy 5 = .ok (.aload_n 0, 1) := by decide +kernel
theorem dX3_lastSightBy_6 : decode cX3_lastSightBy 6 = .ok (.getfield 18, 3) := by decide +kernel
theorem dX3_lastSightBy_9 : decode cX3_lastSightBy 9 = .ok (.invokeinterface 78 1, 5) := by decide +kernel
theorem dX3_lastSightBy_14 : decode cX3_lastSightBy 14 = .ok (.if_icmp .ge 36, 3) := by decide +kernel
theorem dX3_lastSightBy_17 : decode cX3_lastSightBy 17 = .ok (.aload_n 0, 1) := by decide +kernel
theorem dX3_lastSightBy_18 : decode cX3_lastSightBy 18 = .ok (.getfield 18, 3) := by decide +kernel
theorem dX3_lastSightBy_21 : decode cX3_lastSightBy 21 = .ok (.iload_n 3, 1) := by decide +kernel
theorem dX3_lastSightBy_22 : decode cX3_lastSightBy 22 = .ok (.invokeinterface 83 2, 5) := by decide +kernel
theorem dX3_lastSightBy_27 : decode cX3_lastSightBy 27 = .ok (.checkcast 101, 3) := by decide +kernel
theorem dX3_lastSightBy_30 : decode cX3_lastSightBy 30 = .ok (.astore 4, 2) := by decide +kernel
theorem dX3_lastSightBy_32 : decode cX3_lastSightBy 32 = .ok (.aload 4, 2) := by decide +kernel
theorem dX3_lastSightBy_34 : decode cX3_lastSightBy 34 = .ok (.getfield 103, 3) := by decide +kernel
theorem dX3_lastSightBy_37 : decode cX3_lastSightBy 37 = .ok (.iload_n 1, 1) := by decide +kernel
theorem dX3_lastSightBy_38 : decode cX3_lastSightBy 38 = .ok (.if_icmp .gt 6, 3) := by decide +kernel
theorem dX3_lastSightBy_41 : decode cX3_lastSightBy 41 = .ok (.aload 4, 2) := by decide +kernel
theorem dX3_lastSightBy_43 : decode cX3_lastSightBy 43 = .ok (.astore_n 2, 1) := by decide +kernel
theorem dX3_lastSightBy_44 : decode cX3_lastSightBy 44 = .ok (.iinc 3 1, 3) := by decide +kernel
theorem dX3_lastSightBy_47 : decode cX3_lastSightBy 47 = .ok (.goto (-43), 3) := by decide +kernel
theorem dX3_lastSightBy_50 : decode cX3_lastSightBy 50 = .ok (.aload_n 2, 1) := by decide +kernel
theorem dX3_lastSightBy_51 : decode cX3_lastSightBy 51 = .ok (.areturn, 1) := by decide +kernel
set_option maxRecDepth 20000 in
theorem ggX3_firstSightFrom_Jx4a65c_size_8abf5 : GoodIn wsX3_firstSightFrom wsJx4a65c_size_8abf5 := goodIn_r _ [8, 9, 43, 44, 45] (by decide +kernel) (by decide +kernel)
set_option maxRecDepth 20000 in
theorem gX3_firstSightFrom_Jx4a65c_size_8abf5_f78Jx4a65c : GoodIn wsX3_firstSightFrom (va_wsF RX3 78 RJx4a65c ⟨"java/util/List", "size", "()I"⟩ yJx4a65c_size_8abf5 wsJx4a65c_size_8abf5) := goodIn_app (goodIn_of _ (by decide +kernel)) ggX3_firstSightFrom_Jx4a65c_size_8abf5
set_option maxRecDepth 20000 in
theorem ggX3_firstSightFrom_Jx4a65c_get_915e3 : GoodIn wsX3_firstSightFrom wsJx4a65c_get_915e3 := goodIn_r _ [13, 9, 14, 15, 16, 17, 18, 19, 20, 21, 22, 23, 24, 7, 25, 26, 43, 44, 45] (by decide +kernel) (by decide +kernel)
set_option maxRecDepth 20000 in
theorem gX3_firstSightFrom_Jx4a65c_get_915e3_f83Jx4a65c : GoodIn wsX3_firstSightFrom (va_wsF RX3 83 RJx4a65c ⟨"java/util/List", "get", "(I)Ljava/lang/Object;"⟩ yJx4a65c_get_915e3 wsJx4a65c_get_915e3) := goodIn_app (goodIn_of _ (by decide +kernel)) ggX3_firstSightFrom_Jx4a65c_get_915e3
theorem dX3_firstSightFrom_0 : decode cX3_firstSightFrom 0 = .ok (.iconst 0, 1) := by decide +kernel
theorem dX3_firstSightFrom_1 : decode cX3_firstSightFrom 1 = .ok (.istore_n 2, 1) := by decide +kernel
theorem dX3_firstSightFrom_2 : decode cX3_firstSightFrom 2 = .ok (.iload_n 2, 1) := by decide +kernel
theorem dX3_firstSightFrom_3 : decode cX3_firstSightFrom 3 = .ok (.aload_n 0, 1) := by decide +kernel
theorem dX3_firstSightFrom_4 : decode cX3_firstSightFrom 4 = .ok (.getfield 18, 3) := by decide +kernel
theorem dX3_firstSightFrom_7 : decode cX3_firstSightFrom 7 = .ok (.invokeinterface 78 1, 5) := by decide +kernel
theorem dX3_firstSightFrom_12 : decode cX3_firstSightFrom 12 = .ok (.if_icmp .ge 33, 3) := by decide +kernel
theorem dX3_firstSightFrom_15 : decode cX3_firstSightFrom 15 = .ok (.aload_n 0, 1) := by decide +kernel
theorem dX3_firstSightFrom_16 : decode cX3_firstSightFrom 16 = .ok (.getfield 18, 3) := by decide +kernel
theorem dX3_firstSightFrom_19 : decode cX3_firstSightFrom 19 = .ok (.iload_n 2, 1) := by decide +kernel
theorem dX3_firstSightFrom_20 : decode cX3_firstSightFrom 20 = .ok (.invokeinterface 83 2, 5) := by decide +kernel
theorem dX3_firstSightFrom_25 : decode cX3_firstSightFrom 25 = .ok (.checkcast 101, 3) := by decide +kernel
theorem dX3_firstSightFrom_28 : decode cX3_firstSightFrom 28 = .ok (.astore_n 3, 1) := by decide +kernel
theorem dX3_firstSightFrom_29 : decode cX3_firstSightFrom 29 = .ok (.aload_n 3, 1) := by decide +kernel
theorem dX3_firstSightFrom_30 : decode cX3_firstSightFrom 30 = .ok (.getfield 103, 3) := by decide +kernel
theorem dX3_firstSightFrom_33 : decode cX3_firstSightFrom 33 = .ok (.iload_n 1, 1) := by decide +kernel
theorem dX3_firstSightFrom_34 : decode cX3_firstSightFrom 34 = .ok (.if_icmp .lt 5, 3) := by decide +kernel
theorem dX3_firstSightFrom_37 : decode cX3_firstSightFrom 37 = .ok (.aload_n 3, 1) := by decide +kernel
theorem dX3_firstSightFrom_38 : decode cX3_firstSightFrom 38 = .ok (.areturn, 1) := by decide +kernel
theorem dX3_firstSightFrom_39 : decode cX3_firstSightFrom 39 = .ok (.iinc 2 1, 3) := by decide +kernel
theorem dX3_firstSightFrom_42 : decode cX3_firstSightFrom 42 = .ok (.goto (-40), 3) := by decide +kernel
theorem dX3_firstSightFrom_45 : decode cX3_firstSightFrom 45 = .ok (.aconst_null, 1) := by decide +kernel
theorem dX3_firstSightFrom_46 : decode cX3_firstSightFrom 46 = .ok (.areturn, 1) := by decide +kernel
theorem dX4_init_0 : decode cX4_init 0 = .ok (.aload_n 0, 1) := by decide +kernel
theorem dX4_init_1 : decode cX4_init 1 = .ok (.invokespecial 1, 3) := by decide +kernel
theorem dX4_init_4 : decode cX4_init 4 = .ok (.aload_n 0, 1) := by decide +kernel
theorem dX4_init_5 : decode cX4_init 5 = .ok (.iload_n 1, 1) := by decide +kernel
theorem dX4_init_6 : decode cX4_init 6 = .ok (.putfield 7, 3) := by decide +kernel
theorem dX4_init_9 : decode cX4_init 9 = .ok (.aload_n 0, 1) := by decide +kernel
theorem dX4_init_10 : decode cX4_init 10 = .ok (.iload_n 2, 1) := by decide +kernel
theorem dX4_init_11 : decode cX4_init 11 = .ok (.putfield 13, 3) := by decide +kernel
theorem dX4_init_14 : decode cX4_init 14 = .ok (.return_, 1) := by decide +kernel
set_option maxRecDepth 20000 in
theorem ggX5_init_X2_init : GoodIn wsX5_init wsX2_init := goodIn_r _ [27, 28, 2, 3, 29, 30, 31, 32, 33, 34, 55, 56, 57] (by decide +kernel) (by decide +kernel)
set_option maxRecDepth 20000 in
theorem gX5_init_X2_init_n9 : GoodIn wsX5_init (wsX2_init) := ggX5_init_X2_init
set_option maxRecDepth 20000 in
theorem ggX5_init_X1_init : GoodIn wsX5_init wsX1_init := goodIn_r _ [36, 37, 2, 3, 16, 38, 29, 39, 70, 71] (by decide +kernel) (by decide +kernel)
set_option maxRecDepth 20000 in
theorem gX5_init_X1_init_n18 : GoodIn wsX5_init (wsX1_init) := ggX5_init_X1_init
set_option maxRecDepth 20000 in
theorem ggX5_init_Jx4a65c_init_da8c8 : GoodIn wsX5_init wsJx4a65c_init_da8c8 := goodIn_r _ [42, 43, 44, 45, 46, 47, 48, 49, 50, 51, 52, 53, 54, 2, 3, 72, 73, 74] (by decide +kernel) (by decide +kernel)
set_option maxRecDepth 20000 in
theorem gX5_init_Jx4a65c_init_da8c8 : GoodIn wsX5_init (wsJx4a65c_init_da8c8) := ggX5_init_Jx4a65c_init_da8c8
theorem dX5_init_0 : decode cX5_init 0 = .ok (.aload_n 0, 1) := by decide +kernel
theorem dX5_init_1 : decode cX5_init 1 = .ok (.invokespecial 1, 3) := by decide +kernel
theorem dX5_init_4 : decode cX5_init 4 = .ok (.aload_n 0, 1) := by decide +kernel
theorem dX5_init_5 : decode cX5_init 5 = .ok (.new 7, 3) := by decide +kernel
theorem dX5_init_8 : decode cX5_init 8 = .ok (.dup, 1) := by decide +kernel
theorem dX5_init_9 : decode cX5_init 9 = .ok (.invokespecial 9, 3) := by decide +kernel
theorem dX5_init_12 : decode cX5_init 12 = .ok (.putfield 10, 3) := by decide +kernel
theorem dX5_init_15 : decode cX5_init 15 = .ok (.aload_n 0, 1) := by decide +kernel
theorem dX5_init_16 : decode cX5_init 16 = .ok (.new 16, 3) := by decide +kernel
theorem dX5_init_19 : decode cX5_init 19 = .ok (.dup, 1) := by decide +kernel
theorem dX5_init_20 : decode cX5_init 20 = .ok (.invokespecial 18, 3) := by decide +kernel
theorem dX5_init_23 : decode cX5_init 23 = .ok (.putfield 19, 3) := by decide +kernel
theorem dX5_init_26 : decode cX5_init 26 = .ok (.aload_n 0, 1) := by decide +kernel
theorem dX5_init_27 : decode cX5_init 27 = .ok (.new 23, 3) := by decide +kernel
theorem dX5_init_30 : decode cX5_init 30 = .ok (.dup, 1) := by decide +kernel
theorem dX5_init_31 : decode cX5_init 31 = .ok (.invokespecial 25, 3) := by decide +kernel
theorem dX5_init_34 : decode cX5_init 34 = .ok (.putfield 26, 3) := by decide +kernel
theorem dX5_init_37 : decode cX5_init 37 = .ok (.aload_n 0, 1) := by decide +kernel
theorem dX5_init_38 : decode cX5_init 38 = .ok (.bipush 6, 2) := by decide +kernel
theorem dX5_init_40 : decode cX5_init 40 = .ok (.newarray .int, 2) := by decide +kernel
theorem dX5_init_42 : decode cX5_init 42 = .ok (.putfield 30, 3) := by decide +kernel
theorem dX5_init_45 : decode cX5_init 45 = .ok (.aload_n 0, 1) := by decide +kernel
theorem dX5_init_46 : decode cX5_init 46 = .ok (.iconst 0, 1) := by decide +kernel
theorem dX5_init_47 : decode cX5_init 47 = .ok (.putfield 34, 3) := by decide +kernel
theorem dX5_init_50 : decode cX5_init 50 = .ok (.aload_n 0, 1) := by decide +kernel
theorem dX5_init_51 : decode cX5_init 51 = .ok (.iconst 0, 1) := by decide +kernel
theorem dX5_init_52 : decode cX5_init 52 = .ok (.putfield 38, 3) := by decide +kernel
theorem dX5_init_55 : decode cX5_init 55 = .ok (.aload_n 0, 1) := by decide +kernel
theorem dX5_init_56 : decode cX5_init 56 = .ok (.iconst 0, 1) := by decide +kernel
theorem dX5_init_57 : decode cX5_init 57 = .ok (.putfield 41, 3) := by decide +kernel
theorem dX5_init_60 : decode cX5_init 60 = .ok (.aload_n 0, 1) := by decide +kernel
theorem dX5_init_61 : decode cX5_init 61 = .ok (.iconst 0, 1) := by decide +kernel
theorem dX5_init_62 : decode cX5_init 62 = .ok (.putfield 44, 3) := by decide +kernel
theorem dX5_init_65 : decode cX5_init 65 = .ok (.aload_n 0, 1) := by decide +kernel
theorem dX5_init_66 : decode cX5_init 66 = .ok (.iconst 0, 1) := by decide +kernel
theorem dX5_init_67 : decode cX5_init 67 = .ok (.putfield 47, 3) := by decide +kernel
theorem dX5_init_70 : decode cX5_init 70 = .ok (.aload_n 0, 1) := by decide +kernel
theorem dX5_init_71 : decode cX5_init 71 = .ok (.bipush 100, 2) := by decide +kernel
theorem dX5_init_73 : decode cX5_init 73 = .ok (.putfield 50, 3) := by decide +kernel
theorem dX5_init_76 : decode cX5_init 76 = .ok (.aload_n 0, 1) := by decide +kernel
theorem dX5_init_77 : decode cX5_init 77 = .ok (.iconst 1, 1) := by decide +kernel
theorem dX5_init_78 : decode cX5_init 78 = .ok (.putfield 53, 3) := by decide +kernel
theorem dX5_init_81 : decode cX5_init 81 = .ok (.aload_n 0, 1) := by decide +kernel
theorem dX5_init_82 : decode cX5_init 82 = .ok (.lconst 0, 1) := by decide +kernel
theorem dX5_init_83 : decode cX5_init 83 = .ok (.putfield 56, 3) := by decide +kernel
theorem dX5_init_86 : decode cX5_init 86 = .ok (.return_, 1) := by decide +kernel
set_option maxRecDepth 20000 in
theorem ggX5_land_X5_outside : GoodIn wsX5_land wsX5_outside := goodIn_r _ [5] (by decide +kernel) (by decide +kernel)
set_option maxRecDepth 20000 in
theorem gX5_land_X5_outside : GoodIn wsX5_land (va_wsS RX5 60 yX5_outside wsX5_outside) := goodIn_app (goodIn_of _ (by decide +kernel)) ggX5_land_X5_outside
set_option maxRecDepth 20000 in
theorem ggX5_land_X2_isLand : GoodIn wsX5_land wsX2_isLand := goodIn_r _ [10, 11, 3, 4, 5, 28, 29, 30] (by decide +kernel) (by decide +kernel)
set_option maxRecDepth 20000 in
theorem gX5_land_X2_isLand : GoodIn wsX5_land (wsV RX5 64 RX2 yX2_isLand wsX2_isLand) := goodIn_app (goodIn_of _ (by decide +kernel)) ggX5_land_X2_isLand
set_option maxRecDepth 20000 in
theorem ggX5_land_X2_setLand : GoodIn wsX5_land wsX2_setLand := goodIn_r _ [15, 11, 3, 4, 5, 28, 29, 30] (by decide +kernel) (by decide +kernel)
set_option maxRecDepth 20000 in
theorem gX5_land_X2_setLand : GoodIn wsX5_land (wsV RX5 68 RX2 yX2_setLand wsX2_setLand) := goodIn_app (goodIn_of _ (by decide +kernel)) ggX5_land_X2_setLand
theorem dX5_land_0 : decode cX5_land 0 = .ok (.iload_n 1, 1) := by decide +kernel
theorem dX5_land_1 : decode cX5_land 1 = .ok (.sipush 159, 3) := by decide +kernel
theorem dX5_land_4 : decode cX5_land 4 = .ok (.invokestatic 60, 3) := by decide +kernel
theorem dX5_land_7 : decode cX5_land 7 = .ok (.ifCond .eq 5, 3) := by decide +kernel
theorem dX5_land_10 : decode cX5_land 10 = .ok (.iconst (-1), 1) := by decide +kernel
theorem dX5_land_11 : decode cX5_land 11 = .ok (.ireturn, 1) := by decide +kernel
theorem dX5_land_12 : decode cX5_land 12 = .ok (.aload_n 0, 1) := by decide +kernel
theorem dX5_land_13 : decode cX5_land 13 = .ok (.getfield 10, 3) := by decide +kernel
theorem dX5_land_16 : decode cX5_land 16 = .ok (.iload_n 1, 1) := by decide +kernel
theorem dX5_land_17 : decode cX5_land 17 = .ok (.invokevirtual 64, 3) := by decide +kernel
theorem dX5_land_20 : decode cX5_land 20 = .ok (.istore_n 3, 1) := by decide +kernel
theorem dX5_land_21 : decode cX5_land 21 = .ok (.aload_n 0, 1) := by decide +kernel
theorem dX5_land_22 : decode cX5_land 22 = .ok (.getfield 10, 3) := by decide +kernel
theorem dX5_land_25 : decode cX5_land 25 = .ok (.iload_n 1, 1) := by decide +kernel
theorem dX5_land_26 : decode cX5_land 26 = .ok (.iload_n 2, 1) := by decide +kernel
theorem dX5_land_27 : decode cX5_land 27 = .ok (.invokevirtual 68, 3) := by decide +kernel
theorem dX5_land_30 : decode cX5_land 30 = .ok (.iload_n 3, 1) := by decide +kernel
theorem dX5_land_31 : decode cX5_land 31 = .ok (.ifCond .eq 7, 3) := by decide +kernel
theorem dX5_land_34 : decode cX5_land 34 = .ok (.iconst 1, 1) := by decide +kernel
theorem dX5_land_35 : decode cX5_land 35 = .ok (.goto 4, 3) := by decide +kernel
theorem dX5_land_38 : decode cX5_land 38 = .ok (.iconst 0, 1) := by decide +kernel
theorem dX5_land_39 : decode cX5_land 39 = .ok (.ireturn, 1) := by decide +kernel
set_option maxRecDepth 20000 in
theorem ggX5_chart_X5_outside : GoodIn wsX5_chart wsX5_outside := goodIn_r _ [5] (by decide +kernel) (by decide +kernel)
set_option maxRecDepth 20000 in
theorem gX5_chart_X5_outside : GoodIn wsX5_chart (va_wsS RX5 60 yX5_outside wsX5_outside) := goodIn_app (goodIn_of _ (by decide +kernel)) ggX5_chart_X5_outside
set_option maxRecDepth 20000 in
theorem ggX5_chart_X2_hasChart : GoodIn wsX5_chart wsX2_hasChart := goodIn_r _ [10, 11, 3, 4, 5, 33, 34, 35] (by decide +kernel) (by decide +kernel)
set_option maxRecDepth 20000 in
theorem gX5_chart_X2_hasChart : GoodIn wsX5_chart (wsV RX5 72 RX2 yX2_hasChart wsX2_hasChart) := goodIn_app (goodIn_of _ (by decide +kernel)) ggX5_chart_X2_hasChart
set_option maxRecDepth 20000 in
theorem ggX5_chart_X2_drawCalm : GoodIn wsX5_chart wsX2_drawCalm := goodIn_r _ [15, 11, 16, 3, 4, 5, 17, 18, 19, 20, 33, 34, 35] (by decide +kernel) (by decide +kernel)
set_option maxRecDepth 20000 in
theorem gX5_chart_X2_drawCalm : GoodIn wsX5_chart (wsV RX5 75 RX2 yX2_drawCalm wsX2_drawCalm) := goodIn_app (goodIn_of _ (by decide +kernel)) ggX5_chart_X2_drawCalm
theorem dX5_chart_0 : decode cX5_chart 0 = .ok (.iload_n 1, 1) := by decide +kernel
theorem dX5_chart_1 : decode cX5_chart 1 = .ok (.bipush 11, 2) := by decide +kernel
theorem dX5_chart_3 : decode cX5_chart 3 = .ok (.invokestatic 60, 3) := by decide +kernel
theorem dX5_chart_6 : decode cX5_chart 6 = .ok (.ifCond .eq 5, 3) := by decide +kernel
theorem dX5_chart_9 : decode cX5_chart 9 = .ok (.iconst (-1), 1) := by decide +kernel
theorem dX5_chart_10 : decode cX5_chart 10 = .ok (.ireturn, 1) := by decide +kernel
theorem dX5_chart_11 : decode cX5_chart 11 = .ok (.aload_n 0, 1) := by decide +kernel
theorem dX5_chart_12 : decode cX5_chart 12 = .ok (.getfield 10, 3) := by decide +kernel
theorem dX5_chart_15 : decode cX5_chart 15 = .ok (.iload_n 1, 1) := by decide +kernel
theorem dX5_chart_16 : decode cX5_chart 16 = .ok (.invokevirtual 72, 3) := by decide +kernel
theorem dX5_chart_19 : decode cX5_chart 19 = .ok (.istore_n 2, 1) := by decide +kernel
theorem dX5_chart_20 : decode cX5_chart 20 = .ok (.aload_n 0, 1) := by decide +kernel
theorem dX5_chart_21 : decode cX5_chart 21 = .ok (.getfield 10, 3) := by decide +kernel
theorem dX5_chart_24 : decode cX5_chart 24 = .ok (.iload_n 1, 1) := by decide +kernel
theorem dX5_chart_25 : decode cX5_chart 25 = .ok (.invokevirtual 75, 3) := by decide +kernel
theorem dX5_chart_28 : decode cX5_chart 28 = .ok (.iload_n 2, 1) := by decide +kernel
theorem dX5_chart_29 : decode cX5_chart 29 = .ok (.ifCond .eq 7, 3) := by decide +kernel
theorem dX5_chart_32 : decode cX5_chart 32 = .ok (.iconst 1, 1) := by decide +kernel
theorem dX5_chart_33 : decode cX5_chart 33 = .ok (.goto 4, 3) := by decide +kernel
theorem dX5_chart_36 : decode cX5_chart 36 = .ok (.iconst 0, 1) := by decide +kernel
theorem dX5_chart_37 : decode cX5_chart 37 = .ok (.ireturn, 1) := by decide +kernel
set_option maxRecDepth 20000 in
theorem ggX5_wind_X5_outside : GoodIn wsX5_wind wsX5_outside := goodIn_r _ [5] (by decide +kernel) (by decide +kernel)
set_option maxRecDepth 20000 in
theorem gX5_wind_X5_outside : GoodIn wsX5_wind (va_wsS RX5 60 yX5_outside wsX5_outside) := goodIn_app (goodIn_of _ (by decide +kernel)) ggX5_wind_X5_outside
set_option maxRecDepth 20000 in
theorem ggX5_wind_X2_hasChart : GoodIn wsX5_wind wsX2_hasChart := goodIn_r _ [10, 11, 3, 4, 5, 40, 41, 42] (by decide +kernel) (by decide +kernel)
set_option maxRecDepth 20000 in
theorem gX5_wind_X2_hasChart : GoodIn wsX5_wind (wsV RX5 72 RX2 yX2_hasChart wsX2_hasChart) := goodIn_app (goodIn_of _ (by decide +kernel)) ggX5_wind_X2_hasChart
set_option maxRecDepth 20000 in
theorem ggX5_wind_X5_found : GoodIn wsX5_wind wsX5_found := goodIn_r _ [15, 16, 17, 28, 29, 30, 31, 32, 33, 34, 35, 36, 37, 38, 39] (by decide +kernel) (by decide +kernel)
set_option maxRecDepth 20000 in
theorem gX5_wind_X5_found : GoodIn wsX5_wind (wsV RX5 79 RX5 yX5_found wsX5_found) := goodIn_app (goodIn_of _ (by decide +kernel)) ggX5_wind_X5_found
set_option maxRecDepth 20000 in
theorem ggX5_wind_X2_drawnAt : GoodIn wsX5_wind wsX2_drawnAt := goodIn_r _ [21, 22, 23, 7, 8, 9, 10, 11, 3, 4, 5, 40, 41, 42] (by decide +kernel) (by decide +kernel)
set_option maxRecDepth 20000 in
theorem gX5_wind_X2_drawnAt : GoodIn wsX5_wind (wsV RX5 83 RX2 yX2_drawnAt wsX2_drawnAt) := goodIn_app (goodIn_of _ (by decide +kernel)) ggX5_wind_X2_drawnAt
set_option maxRecDepth 20000 in
theorem ggX5_wind_X2_drawAt : GoodIn wsX5_wind wsX2_drawAt := goodIn_r _ [27, 22, 23, 7, 8, 9, 10, 11, 3, 4, 5, 40, 41, 42] (by decide +kernel) (by decide +kernel)
set_option maxRecDepth 20000 in
theorem gX5_wind_X2_drawAt : GoodIn wsX5_wind (wsV RX5 87 RX2 yX2_drawAt wsX2_drawAt) := goodIn_app (goodIn_of _ (by decide +kernel)) ggX5_wind_X2_drawAt
theorem dX5_wind_0 : decode cX5_wind 0 = .ok (.iload_n 1, 1) := by decide +kernel
theorem dX5_wind_1 : decode cX5_wind 1 = .ok (.bipush 11, 2) := by decide +kernel
theorem dX5_wind_3 : decode cX5_wind 3 = .ok (.invokestatic 60, 3) := by decide +kernel
theorem dX5_wind_6 : decode cX5_wind 6 = .ok (.ifCond .eq 5, 3) := by decide +kernel
theorem dX5_wind_9 : decode cX5_wind 9 = .ok (.iconst (-1), 1) := by decide +kernel
theorem dX5_wind_10 : decode cX5_wind 10 = .ok (.ireturn, 1) := by decide +kernel
theorem dX5_wind_11 : decode cX5_wind 11 = .ok (.aload_n 0, 1) := by decide +kernel
theorem dX5_wind_12 : decode cX5_wind 12 = .ok (.getfield 10, 3) := by decide +kernel
theorem dX5_wind_15 : decode cX5_wind 15 = .ok (.iload_n 1, 1) := by decide +kernel
theorem dX5_wind_16 : decode cX5_wind 16 = .ok (.invokevirtual 72, 3) := by decide +kernel
theorem dX5_wind_19 : decode cX5_wind 19 = .ok (.ifCond .ne 9, 3) := by decide +kernel
theorem dX5_wind_22 : decode cX5_wind 22 = .ok (.aload_n 0, 1) := by decide +kernel
theorem dX5_wind_23 : decode cX5_wind 23 = .ok (.iconst 1, 1) := by decide +kernel
theorem dX5_wind_24 : decode cX5_wind 24 = .ok (.invokevirtual 79, 3) := by decide +kernel
theorem dX5_wind_27 : decode cX5_wind 27 = .ok (.ireturn, 1) := by decide +kernel
theorem dX5_wind_28 : decode cX5_wind 28 = .ok (.iload_n 2, 1) := by decide +kernel
theorem dX5_wind_29 : decode cX5_wind 29 = .ok (.sipush 159, 3) := by decide +kernel
theorem dX5_wind_32 : decode cX5_wind 32 = .ok (.invokestatic 60, 3) := by decide +kernel
theorem dX5_wind_35 : decode cX5_wind 35 = .ok (.ifCond .eq 9, 3) := by decide +kernel
theorem dX5_wind_38 : decode cX5_wind 38 = .ok (.aload_n 0, 1) := by decide +kernel
theorem dX5_wind_39 : decode cX5_wind 39 = .ok (.iconst 2, 1) := by decide +kernel
theorem dX5_wind_40 : decode cX5_wind 40 = .ok (.invokevirtual 79, 3) := by decide +kernel
theorem dX5_wind_43 : decode cX5_wind 43 = .ok (.ireturn, 1) := by decide +kernel
theorem dX5_wind_44 : decode cX5_wind 44 = .ok (.aload_n 0, 1) := by decide +kernel
theorem dX5_wind_45 : decode cX5_wind 45 = .ok (.getfield 10, 3) := by decide +kernel
theorem dX5_wind_48 : decode cX5_wind 48 = .ok (.iload_n 1, 1) := by decide +kernel
theorem dX5_wind_49 : decode cX5_wind 49 = .ok (.iload_n 2, 1) := by decide +kernel
theorem dX5_wind_50 : decode cX5_wind 50 = .ok (.invokevirtual 83, 3) := by decide +kernel
theorem dX5_wind_53 : decode cX5_wind 53 = .ok (.istore 4, 2) := by decide +kernel
theorem dX5_wind_55 : decode cX5_wind 55 = .ok (.aload_n 0, 1) := by decide +kernel
theorem dX5_wind_56 : decode cX5_wind 56 = .ok (.getfield 10, 3) := by decide +kernel
theorem dX5_wind_59 : decode cX5_wind 59 = .ok (.iload_n 1, 1) := by decide +kernel
theorem dX5_wind_60 : decode cX5_wind 60 = .ok (.iload_n 2, 1) := by decide +kernel
theorem dX5_wind_61 : decode cX5_wind 61 = .ok (.iload_n 3, 1) := by decide +kernel
theorem dX5_wind_62 : decode cX5_wind 62 = .ok (.i2b, 1) := by decide +kernel
theorem dX5_wind_63 : decode cX5_wind 63 = .ok (.invokevirtual 87, 3) := by decide +kernel
theorem dX5_wind_66 : decode cX5_wind 66 = .ok (.iload 4, 2) := by decide +kernel
theorem dX5_wind_68 : decode cX5_wind 68 = .ok (.sipush 1000, 3) := by decide +kernel
theorem dX5_wind_71 : decode cX5_wind 71 = .ok (.iadd, 1) := by decide +kernel
theorem dX5_wind_72 : decode cX5_wind 72 = .ok (.ireturn, 1) := by decide +kernel
set_option maxRecDepth 20000 in
theorem ggX5_tear_X5_outside : GoodIn wsX5_tear wsX5_outside := goodIn_r _ [5] (by decide +kernel) (by decide +kernel)
set_option maxRecDepth 20000 in
theorem gX5_tear_X5_outside : GoodIn wsX5_tear (va_wsS RX5 60 yX5_outside wsX5_outside) := goodIn_app (goodIn_of _ (by decide +kernel)) ggX5_tear_X5_outside
set_option maxRecDepth 20000 in
theorem ggX5_tear_X2_hasChart : GoodIn wsX5_tear wsX2_hasChart := goodIn_r _ [10, 11, 3, 4, 5, 34, 35, 36] (by decide +kernel) (by decide +kernel)
set_option maxRecDepth 20000 in
theorem gX5_tear_X2_hasChart : GoodIn wsX5_tear (wsV RX5 72 RX2 yX2_hasChart wsX2_hasChart) := goodIn_app (goodIn_of _ (by decide +kernel)) ggX5_tear_X2_hasChart
set_option maxRecDepth 20000 in
theorem ggX5_tear_X5_found : GoodIn wsX5_tear wsX5_found := goodIn_r _ [15, 16, 17, 22, 23, 24, 25, 26, 27, 28, 29, 30, 31, 32, 33] (by decide +kernel) (by decide +kernel)
set_option maxRecDepth 20000 in
theorem gX5_tear_X5_found : GoodIn wsX5_tear (wsV RX5 79 RX5 yX5_found wsX5_found) := goodIn_app (goodIn_of _ (by decide +kernel)) ggX5_tear_X5_found
set_option maxRecDepth 20000 in
theorem ggX5_tear_X2_loseChart : GoodIn wsX5_tear wsX2_loseChart := goodIn_r _ [21, 11, 3, 4, 5, 34, 35, 36] (by decide +kernel) (by decide +kernel)
set_option maxRecDepth 20000 in
theorem gX5_tear_X2_loseChart : GoodIn wsX5_tear (wsV RX5 91 RX2 yX2_loseChart wsX2_loseChart) := goodIn_app (goodIn_of _ (by decide +kernel)) ggX5_tear_X2_loseChart
theorem dX5_tear_0 : decode cX5_tear 0 = .ok (.iload_n 1, 1) := by decide +kernel
end
section
theorem dX5_tear_1 : decode cX5_tear 1 = .ok (.bipush 11, 2) := by decide +kernel
theorem dX5_tear_3 : decode cX5_tear 3 = .ok (.invokestatic 60, 3) := by decide +kernel
theorem dX5_tear_6 : decode cX5_tear 6 = .ok (.ifCond .eq 5, 3) := by decide +kernel
theorem dX5_tear_9 : decode cX5_tear 9 = .ok (.iconst (-1), 1) := by decide +kernel
theorem dX5_tear_10 : decode cX5_tear 10 = .ok (.ireturn, 1) := by decide +kernel
theorem dX5_tear_11 : decode cX5_tear 11 = .ok (.aload_n 0, 1) := by decide +kernel
theorem dX5_tear_12 : decode cX5_tear 12 = .ok (.getfield 10, 3) := by decide +kernel
theorem dX5_tear_15 : decode cX5_tear 15 = .ok (.iload_n 1, 1) := by decide +kernel
theorem dX5_tear_16 : decode cX5_tear 16 = .ok (.invokevirtual 72, 3) := by decide +kernel
theorem dX5_tear_19 : decode cX5_tear 19 = .ok (.ifCond .ne 9, 3) := by decide +kernel
theorem dX5_tear_22 : decode cX5_tear 22 = .ok (.aload_n 0, 1) := by decide +kernel
theorem dX5_tear_23 : decode cX5_tear 23 = .ok (.iconst 1, 1) := by decide +kernel
theorem dX5_tear_24 : decode cX5_tear 24 = .ok (.invokevirtual 79, 3) := by decide +kernel
theorem dX5_tear_27 : decode cX5_tear 27 = .ok (.ireturn, 1) := by decide +kernel
theorem dX5_tear_28 : decode cX5_tear 28 = .ok (.aload_n 0, 1) := by decide +kernel
theorem dX5_tear_29 : decode cX5_tear 29 = .ok (.getfield 10, 3) := by decide +kernel
theorem dX5_tear_32 : decode cX5_tear 32 = .ok (.iload_n 1, 1) := by decide +kernel
theorem dX5_tear_33 : decode cX5_tear 33 = .ok (.invokevirtual 91, 3) := by decide +kernel
theorem dX5_tear_36 : decode cX5_tear 36 = .ok (.iconst 1, 1) := by decide +kernel
theorem dX5_tear_37 : decode cX5_tear 37 = .ok (.ireturn, 1) := by decide +kernel
set_option maxRecDepth 20000 in
theorem ggX5_copy_X5_outside : GoodIn wsX5_copy wsX5_outside := goodIn_r _ [5] (by decide +kernel) (by decide +kernel)
set_option maxRecDepth 20000 in
theorem gX5_copy_X5_outside : GoodIn wsX5_copy (va_wsS RX5 60 yX5_outside wsX5_outside) := goodIn_app (goodIn_of _ (by decide +kernel)) ggX5_copy_X5_outside
set_option maxRecDepth 20000 in
theorem ggX5_copy_X5_found : GoodIn wsX5_copy wsX5_found := goodIn_r _ [9, 10, 11, 28, 29, 30, 31, 32, 33, 34, 35, 36, 37, 38, 39] (by decide +kernel) (by decide +kernel)
set_option maxRecDepth 20000 in
theorem gX5_copy_X5_found : GoodIn wsX5_copy (wsV RX5 79 RX5 yX5_found wsX5_found) := goodIn_app (goodIn_of _ (by decide +kernel)) ggX5_copy_X5_found
set_option maxRecDepth 20000 in
theorem ggX5_copy_X2_hasChart : GoodIn wsX5_copy wsX2_hasChart := goodIn_r _ [16, 17, 3, 4, 5, 40, 41, 42] (by decide +kernel) (by decide +kernel)
set_option maxRecDepth 20000 in
theorem gX5_copy_X2_hasChart : GoodIn wsX5_copy (wsV RX5 72 RX2 yX2_hasChart wsX2_hasChart) := goodIn_app (goodIn_of _ (by decide +kernel)) ggX5_copy_X2_hasChart
set_option maxRecDepth 20000 in
theorem ggX5_copy_X2_copyChart : GoodIn wsX5_copy wsX2_copyChart := goodIn_r _ [21, 22, 23, 24, 25, 26, 27, 13, 14, 15, 16, 17, 3, 4, 5, 40, 41, 42] (by decide +kernel) (by decide +kernel)
set_option maxRecDepth 20000 in
theorem gX5_copy_X2_copyChart : GoodIn wsX5_copy (wsV RX5 94 RX2 yX2_copyChart wsX2_copyChart) := goodIn_app (goodIn_of _ (by decide +kernel)) ggX5_copy_X2_copyChart
theorem dX5_copy_0 : decode cX5_copy 0 = .ok (.iload_n 1, 1) := by decide +kernel
theorem dX5_copy_1 : decode cX5_copy 1 = .ok (.bipush 11, 2) := by decide +kernel
theorem dX5_copy_3 : decode cX5_copy 3 = .ok (.invokestatic 60, 3) := by decide +kernel
theorem dX5_copy_6 : decode cX5_copy 6 = .ok (.ifCond .ne 12, 3) := by decide +kernel
theorem dX5_copy_9 : decode cX5_copy 9 = .ok (.iload_n 3, 1) := by decide +kernel
theorem dX5_copy_10 : decode cX5_copy 10 = .ok (.bipush 11, 2) := by decide +kernel
theorem dX5_copy_12 : decode cX5_copy 12 = .ok (.invokestatic 60, 3) := by decide +kernel
theorem dX5_copy_15 : decode cX5_copy 15 = .ok (.ifCond .eq 5, 3) := by decide +kernel
theorem dX5_copy_18 : decode cX5_copy 18 = .ok (.iconst (-1), 1) := by decide +kernel
theorem dX5_copy_19 : decode cX5_copy 19 = .ok (.ireturn, 1) := by decide +kernel
theorem dX5_copy_20 : decode cX5_copy 20 = .ok (.iload 5, 2) := by decide +kernel
theorem dX5_copy_22 : decode cX5_copy 22 = .ok (.ifCond .ge 9, 3) := by decide +kernel
theorem dX5_copy_25 : decode cX5_copy 25 = .ok (.aload_n 0, 1) := by decide +kernel
theorem dX5_copy_26 : decode cX5_copy 26 = .ok (.iconst 5, 1) := by decide +kernel
theorem dX5_copy_27 : decode cX5_copy 27 = .ok (.invokevirtual 79, 3) := by decide +kernel
theorem dX5_copy_30 : decode cX5_copy 30 = .ok (.ireturn, 1) := by decide +kernel
theorem dX5_copy_31 : decode cX5_copy 31 = .ok (.aload_n 0, 1) := by decide +kernel
theorem dX5_copy_32 : decode cX5_copy 32 = .ok (.getfield 10, 3) := by decide +kernel
theorem dX5_copy_35 : decode cX5_copy 35 = .ok (.iload_n 1, 1) := by decide +kernel
theorem dX5_copy_36 : decode cX5_copy 36 = .ok (.invokevirtual 72, 3) := by decide +kernel
theorem dX5_copy_39 : decode cX5_copy 39 = .ok (.ifCond .eq 14, 3) := by decide +kernel
theorem dX5_copy_42 : decode cX5_copy 42 = .ok (.aload_n 0, 1) := by decide +kernel
theorem dX5_copy_43 : decode cX5_copy 43 = .ok (.getfield 10, 3) := by decide +kernel
theorem dX5_copy_46 : decode cX5_copy 46 = .ok (.iload_n 3, 1) := by decide +kernel
theorem dX5_copy_47 : decode cX5_copy 47 = .ok (.invokevirtual 72, 3) := by decide +kernel
theorem dX5_copy_50 : decode cX5_copy 50 = .ok (.ifCond .ne 9, 3) := by decide +kernel
theorem dX5_copy_53 : decode cX5_copy 53 = .ok (.aload_n 0, 1) := by decide +kernel
theorem dX5_copy_54 : decode cX5_copy 54 = .ok (.iconst 1, 1) := by decide +kernel
theorem dX5_copy_55 : decode cX5_copy 55 = .ok (.invokevirtual 79, 3) := by decide +kernel
theorem dX5_copy_58 : decode cX5_copy 58 = .ok (.ireturn, 1) := by decide +kernel
theorem dX5_copy_59 : decode cX5_copy 59 = .ok (.iload_n 2, 1) := by decide +kernel
theorem dX5_copy_60 : decode cX5_copy 60 = .ok (.sipush 160, 3) := by decide +kernel
theorem dX5_copy_63 : decode cX5_copy 63 = .ok (.iload 5, 2) := by decide +kernel
theorem dX5_copy_65 : decode cX5_copy 65 = .ok (.isub, 1) := by decide +kernel
theorem dX5_copy_66 : decode cX5_copy 66 = .ok (.invokestatic 60, 3) := by decide +kernel
theorem dX5_copy_69 : decode cX5_copy 69 = .ok (.ifCond .ne 17, 3) := by decide +kernel
theorem dX5_copy_72 : decode cX5_copy 72 = .ok (.iload 4, 2) := by decide +kernel
theorem dX5_copy_74 : decode cX5_copy 74 = .ok (.sipush 160, 3) := by decide +kernel
theorem dX5_copy_77 : decode cX5_copy 77 = .ok (.iload 5, 2) := by decide +kernel
theorem dX5_copy_79 : decode cX5_copy 79 = .ok (.isub, 1) := by decide +kernel
theorem dX5_copy_80 : decode cX5_copy 80 = .ok (.invokestatic 60, 3) := by decide +kernel
theorem dX5_copy_83 : decode cX5_copy 83 = .ok (.ifCond .eq 9, 3) := by decide +kernel
theorem dX5_copy_86 : decode cX5_copy 86 = .ok (.aload_n 0, 1) := by decide +kernel
theorem dX5_copy_87 : decode cX5_copy 87 = .ok (.iconst 2, 1) := by decide +kernel
theorem dX5_copy_88 : decode cX5_copy 88 = .ok (.invokevirtual 79, 3) := by decide +kernel
theorem dX5_copy_91 : decode cX5_copy 91 = .ok (.ireturn, 1) := by decide +kernel
theorem dX5_copy_92 : decode cX5_copy 92 = .ok (.aload_n 0, 1) := by decide +kernel
theorem dX5_copy_93 : decode cX5_copy 93 = .ok (.getfield 10, 3) := by decide +kernel
theorem dX5_copy_96 : decode cX5_copy 96 = .ok (.iload_n 1, 1) := by decide +kernel
theorem dX5_copy_97 : decode cX5_copy 97 = .ok (.iload_n 2, 1) := by decide +kernel
theorem dX5_copy_98 : decode cX5_copy 98 = .ok (.iload_n 3, 1) := by decide +kernel
theorem dX5_copy_99 : decode cX5_copy 99 = .ok (.iload 4, 2) := by decide +kernel
theorem dX5_copy_101 : decode cX5_copy 101 = .ok (.iload 5, 2) := by decide +kernel
theorem dX5_copy_103 : decode cX5_copy 103 = .ok (.invokevirtual 94, 3) := by decide +kernel
theorem dX5_copy_106 : decode cX5_copy 106 = .ok (.iconst 1, 1) := by decide +kernel
theorem dX5_copy_107 : decode cX5_copy 107 = .ok (.ireturn, 1) := by decide +kernel
set_option maxRecDepth 20000 in
theorem ggX5_mean_X5_outside : GoodIn wsX5_mean wsX5_outside := goodIn_r _ [5] (by decide +kernel) (by decide +kernel)
set_option maxRecDepth 20000 in
theorem gX5_mean_X5_outside : GoodIn wsX5_mean (va_wsS RX5 60 yX5_outside wsX5_outside) := goodIn_app (goodIn_of _ (by decide +kernel)) ggX5_mean_X5_outside
set_option maxRecDepth 20000 in
theorem ggX5_mean_X2_hasChart : GoodIn wsX5_mean wsX2_hasChart := goodIn_r _ [10, 11, 3, 4, 5, 38, 39, 40] (by decide +kernel) (by decide +kernel)
set_option maxRecDepth 20000 in
theorem gX5_mean_X2_hasChart : GoodIn wsX5_mean (wsV RX5 72 RX2 yX2_hasChart wsX2_hasChart) := goodIn_app (goodIn_of _ (by decide +kernel)) ggX5_mean_X2_hasChart
set_option maxRecDepth 20000 in
theorem ggX5_mean_X5_found : GoodIn wsX5_mean wsX5_found := goodIn_r _ [15, 16, 17, 26, 27, 28, 29, 30, 31, 32, 33, 34, 35, 36, 37] (by decide +kernel) (by decide +kernel)
set_option maxRecDepth 20000 in
theorem gX5_mean_X5_found : GoodIn wsX5_mean (wsV RX5 79 RX5 yX5_found wsX5_found) := goodIn_app (goodIn_of _ (by decide +kernel)) ggX5_mean_X5_found
set_option maxRecDepth 20000 in
theorem ggX5_mean_X2_windIn : GoodIn wsX5_mean wsX2_windIn := goodIn_r _ [21, 11, 22, 3, 4, 5, 38, 39, 40] (by decide +kernel) (by decide +kernel)
set_option maxRecDepth 20000 in
theorem gX5_mean_X2_windIn : GoodIn wsX5_mean (wsV RX5 98 RX2 yX2_windIn wsX2_windIn) := goodIn_app (goodIn_of _ (by decide +kernel)) ggX5_mean_X2_windIn
set_option maxRecDepth 20000 in
theorem ggX5_mean_X5_strengthOf : GoodIn wsX5_mean wsX5_strengthOf := goodIn_r _ [25] (by decide +kernel) (by decide +kernel)
set_option maxRecDepth 20000 in
theorem gX5_mean_X5_strengthOf : GoodIn wsX5_mean (va_wsS RX5 101 yX5_strengthOf wsX5_strengthOf) := goodIn_app (goodIn_of _ (by decide +kernel)) ggX5_mean_X5_strengthOf
theorem dX5_mean_0 : decode cX5_mean 0 = .ok (.iload_n 1, 1) := by decide +kernel
theorem dX5_mean_1 : decode cX5_mean 1 = .ok (.bipush 11, 2) := by decide +kernel
theorem dX5_mean_3 : decode cX5_mean 3 = .ok (.invokestatic 60, 3) := by decide +kernel
theorem dX5_mean_6 : decode cX5_mean 6 = .ok (.ifCond .eq 5, 3) := by decide +kernel
theorem dX5_mean_9 : decode cX5_mean 9 = .ok (.iconst (-1), 1) := by decide +kernel
theorem dX5_mean_10 : decode cX5_mean 10 = .ok (.ireturn, 1) := by decide +kernel
theorem dX5_mean_11 : decode cX5_mean 11 = .ok (.aload_n 0, 1) := by decide +kernel
theorem dX5_mean_12 : decode cX5_mean 12 = .ok (.getfield 10, 3) := by decide +kernel
theorem dX5_mean_15 : decode cX5_mean 15 = .ok (.iload_n 1, 1) := by decide +kernel
theorem dX5_mean_16 : decode cX5_mean 16 = .ok (.invokevirtual 72, 3) := by decide +kernel
theorem dX5_mean_19 : decode cX5_mean 19 = .ok (.ifCond .ne 9, 3) := by decide +kernel
theorem dX5_mean_22 : decode cX5_mean 22 = .ok (.aload_n 0, 1) := by decide +kernel
theorem dX5_mean_23 : decode cX5_mean 23 = .ok (.iconst 1, 1) := by decide +kernel
theorem dX5_mean_24 : decode cX5_mean 24 = .ok (.invokevirtual 79, 3) := by decide +kernel
theorem dX5_mean_27 : decode cX5_mean 27 = .ok (.ireturn, 1) := by decide +kernel
theorem dX5_mean_28 : decode cX5_mean 28 = .ok (.iconst 0, 1) := by decide +kernel
theorem dX5_mean_29 : decode cX5_mean 29 = .ok (.istore_n 2, 1) := by decide +kernel
theorem dX5_mean_30 : decode cX5_mean 30 = .ok (.iconst 0, 1) := by decide +kernel
theorem dX5_mean_31 : decode cX5_mean 31 = .ok (.istore_n 3, 1) := by decide +kernel
theorem dX5_mean_32 : decode cX5_mean 32 = .ok (.iload_n 3, 1) := by decide +kernel
theorem dX5_mean_33 : decode cX5_mean 33 = .ok (.sipush 160, 3) := by decide +kernel
theorem dX5_mean_36 : decode cX5_mean 36 = .ok (.if_icmp .ge 24, 3) := by decide +kernel
theorem dX5_mean_39 : decode cX5_mean 39 = .ok (.iload_n 2, 1) := by decide +kernel
theorem dX5_mean_40 : decode cX5_mean 40 = .ok (.aload_n 0, 1) := by decide +kernel
theorem dX5_mean_41 : decode cX5_mean 41 = .ok (.getfield 10, 3) := by decide +kernel
theorem dX5_mean_44 : decode cX5_mean 44 = .ok (.iload_n 1, 1) := by decide +kernel
theorem dX5_mean_45 : decode cX5_mean 45 = .ok (.iload_n 3, 1) := by decide +kernel
theorem dX5_mean_46 : decode cX5_mean 46 = .ok (.invokevirtual 98, 3) := by decide +kernel
theorem dX5_mean_49 : decode cX5_mean 49 = .ok (.invokestatic 101, 3) := by decide +kernel
theorem dX5_mean_52 : decode cX5_mean 52 = .ok (.iadd, 1) := by decide +kernel
theorem dX5_mean_53 : decode cX5_mean 53 = .ok (.istore_n 2, 1) := by decide +kernel
theorem dX5_mean_54 : decode cX5_mean 54 = .ok (.iinc 3 1, 3) := by decide +kernel
theorem dX5_mean_57 : decode cX5_mean 57 = .ok (.goto (-25), 3) := by decide +kernel
theorem dX5_mean_60 : decode cX5_mean 60 = .ok (.iload_n 2, 1) := by decide +kernel
theorem dX5_mean_61 : decode cX5_mean 61 = .ok (.sipush 160, 3) := by decide +kernel
theorem dX5_mean_64 : decode cX5_mean 64 = .ok (.idiv, 1) := by decide +kernel
theorem dX5_mean_65 : decode cX5_mean 65 = .ok (.ireturn, 1) := by decide +kernel
set_option maxRecDepth 20000 in
theorem ggX5_ship_X5_outside : GoodIn wsX5_ship wsX5_outside := goodIn_r _ [9] (by decide +kernel) (by decide +kernel)
set_option maxRecDepth 20000 in
theorem gX5_ship_X5_outside : GoodIn wsX5_ship (va_wsS RX5 60 yX5_outside wsX5_outside) := goodIn_app (goodIn_of _ (by decide +kernel)) ggX5_ship_X5_outside
set_option maxRecDepth 20000 in
theorem ggX5_ship_X5_isNoWater : GoodIn wsX5_ship wsX5_isNoWater := goodIn_r _ [13, 14, 6, 7, 8, 9, 15, 16, 17, 18, 19, 20, 116, 117, 118, 119, 120, 121, 122, 123, 124, 125, 126, 127, 142, 143, 144] (by decide +kernel) (by decide +kernel)
set_option maxRecDepth 20000 in
theorem gX5_ship_X5_isNoWater : GoodIn wsX5_ship (wsV RX5 104 RX5 yX5_isNoWater wsX5_isNoWater) := goodIn_app (goodIn_of _ (by decide +kernel)) ggX5_ship_X5_isNoWater
set_option maxRecDepth 20000 in
theorem ggX5_ship_Jx4a65c_size_8abf5 : GoodIn wsX5_ship wsJx4a65c_size_8abf5 := goodIn_r _ [25, 26, 145, 146, 147] (by decide +kernel) (by decide +kernel)
set_option maxRecDepth 20000 in
theorem gX5_ship_Jx4a65c_size_8abf5_f107Jx4a65c : GoodIn wsX5_ship (va_wsF RX5 107 RJx4a65c ⟨"java/util/List", "size", "()I"⟩ yJx4a65c_size_8abf5 wsJx4a65c_size_8abf5) := goodIn_app (goodIn_of _ (by decide +kernel)) ggX5_ship_Jx4a65c_size_8abf5
set_option maxRecDepth 20000 in
theorem ggX5_ship_X3_init : GoodIn wsX5_ship wsX3_init := goodIn_r _ [29, 30, 31, 32, 33, 34, 24, 35, 36, 37, 38, 39, 40, 41, 42, 43, 44, 45, 46, 47, 48, 49, 50, 51, 52, 53, 54, 55, 56, 57, 58, 59, 60, 61, 62, 63, 145, 146, 147, 128, 129, 130, 131, 132, 133, 134, 135, 136, 137, 138, 139, 140, 141] (by decide +kernel) (by decide +kernel)
set_option maxRecDepth 20000 in
theorem gX5_ship_X3_init : GoodIn wsX5_ship (wsX3_init) := ggX5_ship_X3_init
set_option maxRecDepth 20000 in
theorem ggX5_ship_Jx4a65c_add_9ea2d : GoodIn wsX5_ship wsJx4a65c_add_9ea2d := goodIn_r _ [67, 68, 69, 53, 26, 70, 71, 72, 24, 73, 74, 75, 76, 77, 78, 79, 80, 81, 52, 82, 83, 84, 85, 86, 87, 88, 89, 90, 91, 92, 93, 94, 95, 96, 97, 98, 99, 100, 101, 102, 103, 104, 105, 106, 107, 108, 109, 110, 111, 112, 113, 114, 115, 145, 146, 147] (by decide +kernel) (by decide +kernel)
set_option maxRecDepth 20000 in
theorem gX5_ship_Jx4a65c_add_9ea2d_f118Jx4a65c : GoodIn wsX5_ship (va_wsF RX5 118 RJx4a65c ⟨"java/util/List", "add", "(Ljava/lang/Object;)Z"⟩ yJx4a65c_add_9ea2d wsJx4a65c_add_9ea2d) := goodIn_app (goodIn_of _ (by decide +kernel)) ggX5_ship_Jx4a65c_add_9ea2d
theorem dX5_ship_0 : decode cX5_ship 0 = .ok (.iload_n 1, 1) := by decide +kernel
theorem dX5_ship_1 : decode cX5_ship 1 = .ok (.iconst 3, 1) := by decide +kernel
theorem dX5_ship_2 : decode cX5_ship 2 = .ok (.invokestatic 60, 3) := by decide +kernel
theorem dX5_ship_5 : decode cX5_ship 5 = .ok (.ifCond .ne 21, 3) := by decide +kernel
theorem dX5_ship_8 : decode cX5_ship 8 = .ok (.aload_n 0, 1) := by decide +kernel
theorem dX5_ship_9 : decode cX5_ship 9 = .ok (.iload_n 2, 1) := by decide +kernel
theorem dX5_ship_10 : decode cX5_ship 10 = .ok (.invokevirtual 104, 3) := by decide +kernel
theorem dX5_ship_13 : decode cX5_ship 13 = .ok (.ifCond .ne 13, 3) := by decide +kernel
theorem dX5_ship_16 : decode cX5_ship 16 = .ok (.iload_n 3, 1) := by decide +kernel
theorem dX5_ship_17 : decode cX5_ship 17 = .ok (.sipush 20000, 3) := by decide +kernel
theorem dX5_ship_20 : decode cX5_ship 20 = .ok (.invokestatic 60, 3) := by decide +kernel
theorem dX5_ship_23 : decode cX5_ship 23 = .ok (.ifCond .eq 5, 3) := by decide +kernel
theorem dX5_ship_26 : decode cX5_ship 26 = .ok (.iconst (-1), 1) := by decide +kernel
theorem dX5_ship_27 : decode cX5_ship 27 = .ok (.ireturn, 1) := by decide +kernel
theorem dX5_ship_28 : decode cX5_ship 28 = .ok (.aload_n 0, 1) := by decide +kernel
theorem dX5_ship_29 : decode cX5_ship 29 = .ok (.getfield 26, 3) := by decide +kernel
theorem dX5_ship_32 : decode cX5_ship 32 = .ok (.invokeinterface 107 1, 5) := by decide +kernel
theorem dX5_ship_37 : decode cX5_ship 37 = .ok (.bipush 8, 2) := by decide +kernel
theorem dX5_ship_39 : decode cX5_ship 39 = .ok (.if_icmp .lt 6, 3) := by decide +kernel
theorem dX5_ship_42 : decode cX5_ship 42 = .ok (.bipush (-2), 2) := by decide +kernel
theorem dX5_ship_44 : decode cX5_ship 44 = .ok (.ireturn, 1) := by decide +kernel
theorem dX5_ship_45 : decode cX5_ship 45 = .ok (.aload_n 0, 1) := by decide +kernel
theorem dX5_ship_46 : decode cX5_ship 46 = .ok (.getfield 38, 3) := by decide +kernel
theorem dX5_ship_49 : decode cX5_ship 49 = .ok (.ifCond .eq 6, 3) := by decide +kernel
theorem dX5_ship_52 : decode cX5_ship 52 = .ok (.bipush (-4), 2) := by decide +kernel
theorem dX5_ship_54 : decode cX5_ship 54 = .ok (.ireturn, 1) := by decide +kernel
theorem dX5_ship_55 : decode cX5_ship 55 = .ok (.aload_n 0, 1) := by decide +kernel
theorem dX5_ship_56 : decode cX5_ship 56 = .ok (.getfield 26, 3) := by decide +kernel
theorem dX5_ship_59 : decode cX5_ship 59 = .ok (.invokeinterface 107 1, 5) := by decide +kernel
theorem dX5_ship_64 : decode cX5_ship 64 = .ok (.istore 4, 2) := by decide +kernel
theorem dX5_ship_66 : decode cX5_ship 66 = .ok (.aload_n 0, 1) := by decide +kernel
theorem dX5_ship_67 : decode cX5_ship 67 = .ok (.getfield 26, 3) := by decide +kernel
theorem dX5_ship_70 : decode cX5_ship 70 = .ok (.new 113, 3) := by decide +kernel
theorem dX5_ship_73 : decode cX5_ship 73 = .ok (.dup, 1) := by decide +kernel
theorem dX5_ship_74 : decode cX5_ship 74 = .ok (.iload 4, 2) := by decide +kernel
theorem dX5_ship_76 : decode cX5_ship 76 = .ok (.iload_n 1, 1) := by decide +kernel
theorem dX5_ship_77 : decode cX5_ship 77 = .ok (.iload_n 2, 1) := by decide +kernel
theorem dX5_ship_78 : decode cX5_ship 78 = .ok (.iload_n 3, 1) := by decide +kernel
theorem dX5_ship_79 : decode cX5_ship 79 = .ok (.invokespecial 115, 3) := by decide +kernel
theorem dX5_ship_82 : decode cX5_ship 82 = .ok (.invokeinterface 118 2, 5) := by decide +kernel
theorem dX5_ship_87 : decode cX5_ship 87 = .ok (.pop, 1) := by decide +kernel
theorem dX5_ship_88 : decode cX5_ship 88 = .ok (.iload 4, 2) := by decide +kernel
theorem dX5_ship_90 : decode cX5_ship 90 = .ok (.ireturn, 1) := by decide +kernel
set_option maxRecDepth 20000 in
theorem ggX5_foul_X5_shipOf : GoodIn wsX5_foul wsX5_shipOf := goodIn_r _ [6, 7, 8, 9, 10, 11, 12, 13, 14, 15, 16, 17, 18, 19, 20, 21, 22, 23, 24, 25, 26, 27, 28, 29, 30, 31, 49, 50, 51, 52, 53, 54, 55, 56, 57, 58, 59, 60, 61, 62, 63] (by decide +kernel) (by decide +kernel)
set_option maxRecDepth 20000 in
theorem gX5_foul_X5_shipOf : GoodIn wsX5_foul (wsV RX5 122 RX5 yX5_shipOf wsX5_shipOf) := goodIn_app (goodIn_of _ (by decide +kernel)) ggX5_foul_X5_shipOf
set_option maxRecDepth 20000 in
theorem ggX5_foul_X5_outside : GoodIn wsX5_foul wsX5_outside := goodIn_r _ [34] (by decide +kernel) (by decide +kernel)
set_option maxRecDepth 20000 in
theorem gX5_foul_X5_outside : GoodIn wsX5_foul (va_wsS RX5 60 yX5_outside wsX5_outside) := goodIn_app (goodIn_of _ (by decide +kernel)) ggX5_foul_X5_outside
theorem dX5_foul_0 : decode cX5_foul 0 = .ok (.aload_n 0, 1) := by decide +kernel
theorem dX5_foul_1 : decode cX5_foul 1 = .ok (.iload_n 1, 1) := by decide +kernel
theorem dX5_foul_2 : decode cX5_foul 2 = .ok (.invokevirtual 122, 3) := by decide +kernel
theorem dX5_foul_5 : decode cX5_foul 5 = .ok (.astore_n 3, 1) := by decide +kernel
theorem dX5_foul_6 : decode cX5_foul 6 = .ok (.aload_n 3, 1) := by decide +kernel
theorem dX5_foul_7 : decode cX5_foul 7 = .ok (.ifnull 12, 3) := by decide +kernel
theorem dX5_foul_10 : decode cX5_foul 10 = .ok (.iload_n 2, 1) := by decide +kernel
theorem dX5_foul_11 : decode cX5_foul 11 = .ok (.bipush 9, 2) := by decide +kernel
theorem dX5_foul_13 : decode cX5_foul 13 = .ok (.invokestatic 60, 3) := by decide +kernel
theorem dX5_foul_16 : decode cX5_foul 16 = .ok (.ifCond .eq 5, 3) := by decide +kernel
theorem dX5_foul_19 : decode cX5_foul 19 = .ok (.iconst (-1), 1) := by decide +kernel
theorem dX5_foul_20 : decode cX5_foul 20 = .ok (.ireturn, 1) := by decide +kernel
theorem dX5_foul_21 : decode cX5_foul 21 = .ok (.aload_n 3, 1) := by decide +kernel
theorem dX5_foul_22 : decode cX5_foul 22 = .ok (.getfield 126, 3) := by decide +kernel
theorem dX5_foul_25 : decode cX5_foul 25 = .ok (.istore 4, 2) := by decide +kernel
theorem dX5_foul_27 : decode cX5_foul 27 = .ok (.aload_n 3, 1) := by decide +kernel
theorem dX5_foul_28 : decode cX5_foul 28 = .ok (.iload_n 2, 1) := by decide +kernel
theorem dX5_foul_29 : decode cX5_foul 29 = .ok (.putfield 126, 3) := by decide +kernel
theorem dX5_foul_32 : decode cX5_foul 32 = .ok (.iload 4, 2) := by decide +kernel
theorem dX5_foul_34 : decode cX5_foul 34 = .ok (.ireturn, 1) := by decide +kernel
set_option maxRecDepth 20000 in
theorem ggX5_told_X5_shipOf : GoodIn wsX5_told wsX5_shipOf := goodIn_r _ [12, 13, 14, 15, 16, 17, 18, 19, 20, 21, 22, 23, 24, 25, 26, 27, 28, 29, 30, 31, 32, 33, 34, 35, 36, 37, 52, 53, 54, 55, 56, 57, 58, 59, 60, 61, 62, 63, 64, 65, 66] (by decide +kernel) (by decide +kernel)
set_option maxRecDepth 20000 in
theorem gX5_told_X5_shipOf : GoodIn wsX5_told (wsV RX5 122 RX5 yX5_shipOf wsX5_shipOf) := goodIn_app (goodIn_of _ (by decide +kernel)) ggX5_told_X5_shipOf
theorem dX5_told_0 : decode cX5_told 0 = .ok (.aload_n 0, 1) := by decide +kernel
theorem dX5_told_1 : decode cX5_told 1 = .ok (.iload_n 1, 1) := by decide +kernel
theorem dX5_told_2 : decode cX5_told 2 = .ok (.invokevirtual 122, 3) := by decide +kernel
theorem dX5_told_5 : decode cX5_told 5 = .ok (.astore_n 3, 1) := by decide +kernel
theorem dX5_told_6 : decode cX5_told 6 = .ok (.aload_n 3, 1) := by decide +kernel
theorem dX5_told_7 : decode cX5_told 7 = .ok (.ifnonnull 5, 3) := by decide +kernel
theorem dX5_told_10 : decode cX5_told 10 = .ok (.iconst (-1), 1) := by decide +kernel
theorem dX5_told_11 : decode cX5_told 11 = .ok (.ireturn, 1) := by decide +kernel
theorem dX5_told_12 : decode cX5_told 12 = .ok (.iload_n 2, 1) := by decide +kernel
theorem dX5_told_13 : decode cX5_told 13 = .ok (.tableswitch 78 0 6 #[43, 48, 53, 58, 63, 68, 73], 43) := by decide +kernel
theorem dX5_told_56 : decode cX5_told 56 = .ok (.aload_n 3, 1) := by decide +kernel
theorem dX5_told_57 : decode cX5_told 57 = .ok (.getfield 129, 3) := by decide +kernel
theorem dX5_told_60 : decode cX5_told 60 = .ok (.ireturn, 1) := by decide +kernel
theorem dX5_told_61 : decode cX5_told 61 = .ok (.aload_n 3, 1) := by decide +kernel
theorem dX5_told_62 : decode cX5_told 62 = .ok (.getfield 132, 3) := by decide +kernel
theorem dX5_told_65 : decode cX5_told 65 = .ok (.ireturn, 1) := by decide +kernel
theorem dX5_told_66 : decode cX5_told 66 = .ok (.aload_n 3, 1) := by decide +kernel
theorem dX5_told_67 : decode cX5_told 67 = .ok (.getfield 135, 3) := by decide +kernel
theorem dX5_told_70 : decode cX5_told 70 = .ok (.ireturn, 1) := by decide +kernel
theorem dX5_told_71 : decode cX5_told 71 = .ok (.aload_n 3, 1) := by decide +kernel
theorem dX5_told_72 : decode cX5_told 72 = .ok (.getfield 138, 3) := by decide +kernel
theorem dX5_told_75 : decode cX5_told 75 = .ok (.ireturn, 1) := by decide +kernel
theorem dX5_told_76 : decode cX5_told 76 = .ok (.aload_n 3, 1) := by decide +kernel
theorem dX5_told_77 : decode cX5_told 77 = .ok (.getfield 141, 3) := by decide +kernel
theorem dX5_told_80 : decode cX5_told 80 = .ok (.ireturn, 1) := by decide +kernel
theorem dX5_told_81 : decode cX5_told 81 = .ok (.aload_n 3, 1) := by decide +kernel
theorem dX5_told_82 : decode cX5_told 82 = .ok (.getfield 144, 3) := by decide +kernel
theorem dX5_told_85 : decode cX5_told 85 = .ok (.ireturn, 1) := by decide +kernel
theorem dX5_told_86 : decode cX5_told 86 = .ok (.aload_n 3, 1) := by decide +kernel
theorem dX5_told_87 : decode cX5_told 87 = .ok (.getfield 147, 3) := by decide +kernel
theorem dX5_told_90 : decode cX5_told 90 = .ok (.ireturn, 1) := by decide +kernel
theorem dX5_told_91 : decode cX5_told 91 = .ok (.iconst (-1), 1) := by decide +kernel
theorem dX5_told_92 : decode cX5_told 92 = .ok (.ireturn, 1) := by decide +kernel
set_option maxRecDepth 20000 in
theorem ggX5_mark_X5_shipOf : GoodIn wsX5_mark wsX5_shipOf := goodIn_r _ [8, 9, 10, 11, 12, 13, 14, 15, 16, 17, 18, 19, 20, 21, 22, 23, 24, 25, 26, 27, 28, 29, 30, 31, 32, 33, 87, 88, 89, 90, 91, 92, 93, 94, 95, 96, 97, 98, 99, 100, 101] (by decide +kernel) (by decide +kernel)
set_option maxRecDepth 20000 in
theorem gX5_mark_X5_shipOf : GoodIn wsX5_mark (wsV RX5 122 RX5 yX5_shipOf wsX5_shipOf) := goodIn_app (goodIn_of _ (by decide +kernel)) ggX5_mark_X5_shipOf
set_option maxRecDepth 20000 in
theorem ggX5_mark_X3_isOf : GoodIn wsX5_mark wsX3_isOf := goodIn_r _ [38, 39, 73, 74, 75, 76, 77, 78, 79, 80, 81, 82, 83, 84, 85, 86] (by decide +kernel) (by decide +kernel)
set_option maxRecDepth 20000 in
theorem gX5_mark_X3_isOf : GoodIn wsX5_mark (wsV RX5 150 RX3 yX3_isOf wsX3_isOf) := goodIn_app (goodIn_of _ (by decide +kernel)) ggX5_mark_X3_isOf
set_option maxRecDepth 20000 in
theorem ggX5_mark_X5_found : GoodIn wsX5_mark wsX5_found := goodIn_r _ [43, 44, 45, 87, 88, 89, 90, 91, 92, 93, 94, 95, 96, 97, 98] (by decide +kernel) (by decide +kernel)
set_option maxRecDepth 20000 in
theorem gX5_mark_X5_found : GoodIn wsX5_mark (wsV RX5 79 RX5 yX5_found wsX5_found) := goodIn_app (goodIn_of _ (by decide +kernel)) ggX5_mark_X5_found
set_option maxRecDepth 20000 in
theorem ggX5_mark_Jx4a65c_size_8abf5 : GoodIn wsX5_mark wsJx4a65c_size_8abf5 := goodIn_r _ [15, 16, 99, 100, 101] (by decide +kernel) (by decide +kernel)
set_option maxRecDepth 20000 in
theorem gX5_mark_Jx4a65c_size_8abf5_f107Jx4a65c : GoodIn wsX5_mark (va_wsF RX5 107 RJx4a65c ⟨"java/util/List", "size", "()I"⟩ yJx4a65c_size_8abf5 wsJx4a65c_size_8abf5) := goodIn_app (goodIn_of _ (by decide +kernel)) ggX5_mark_Jx4a65c_size_8abf5
set_option maxRecDepth 20000 in
theorem ggX5_mark_X3_speedIn : GoodIn wsX5_mark wsX3_speedIn := goodIn_r _ [49, 39, 50, 51, 52, 53, 54, 55, 7, 56, 57, 58, 59, 60, 61, 62, 63, 64, 65, 66, 67, 37, 68, 69, 70, 71, 72, 73, 74, 75, 76, 77, 78, 79, 80, 81, 82, 83, 84, 85, 86] (by decide +kernel) (by decide +kernel)
set_option maxRecDepth 20000 in
theorem gX5_mark_X3_speedIn : GoodIn wsX5_mark (wsV RX5 156 RX3 yX3_speedIn wsX3_speedIn) := goodIn_app (goodIn_of _ (by decide +kernel)) ggX5_mark_X3_speedIn
theorem dX5_mark_0 : decode cX5_mark 0 = .ok (.aload_n 0, 1) := by decide +kernel
theorem dX5_mark_1 : decode cX5_mark 1 = .ok (.iload_n 1, 1) := by decide +kernel
theorem dX5_mark_2 : decode cX5_mark 2 = .ok (.invokevirtual 122, 3) := by decide +kernel
theorem dX5_mark_5 : decode cX5_mark 5 = .ok (.astore_n 3, 1) := by decide +kernel
theorem dX5_mark_6 : decode cX5_mark 6 = .ok (.aload_n 3, 1) := by decide +kernel
theorem dX5_mark_7 : decode cX5_mark 7 = .ok (.ifnull 13, 3) := by decide +kernel
theorem dX5_mark_10 : decode cX5_mark 10 = .ok (.iload_n 2, 1) := by decide +kernel
theorem dX5_mark_11 : decode cX5_mark 11 = .ok (.iconst 1, 1) := by decide +kernel
theorem dX5_mark_12 : decode cX5_mark 12 = .ok (.if_icmp .lt 8, 3) := by decide +kernel
theorem dX5_mark_15 : decode cX5_mark 15 = .ok (.iload_n 2, 1) := by decide +kernel
theorem dX5_mark_16 : decode cX5_mark 16 = .ok (.iconst 3, 1) := by decide +kernel
theorem dX5_mark_17 : decode cX5_mark 17 = .ok (.if_icmp .le 5, 3) := by decide +kernel
theorem dX5_mark_20 : decode cX5_mark 20 = .ok (.iconst (-1), 1) := by decide +kernel
theorem dX5_mark_21 : decode cX5_mark 21 = .ok (.ireturn, 1) := by decide +kernel
theorem dX5_mark_22 : decode cX5_mark 22 = .ok (.aload_n 3, 1) := by decide +kernel
theorem dX5_mark_23 : decode cX5_mark 23 = .ok (.iload_n 2, 1) := by decide +kernel
theorem dX5_mark_24 : decode cX5_mark 24 = .ok (.invokevirtual 150, 3) := by decide +kernel
theorem dX5_mark_27 : decode cX5_mark 27 = .ok (.ifCond .ne 9, 3) := by decide +kernel
theorem dX5_mark_30 : decode cX5_mark 30 = .ok (.aload_n 0, 1) := by decide +kernel
theorem dX5_mark_31 : decode cX5_mark 31 = .ok (.iconst 3, 1) := by decide +kernel
theorem dX5_mark_32 : decode cX5_mark 32 = .ok (.invokevirtual 79, 3) := by decide +kernel
theorem dX5_mark_35 : decode cX5_mark 35 = .ok (.ireturn, 1) := by decide +kernel
theorem dX5_mark_36 : decode cX5_mark 36 = .ok (.iload_n 2, 1) := by decide +kernel
theorem dX5_mark_37 : decode cX5_mark 37 = .ok (.lookupswitch 47 #[(1, 27), (2, 37)], 27) := by decide +kernel
theorem dX5_mark_64 : decode cX5_mark 64 = .ok (.aload_n 3, 1) := by decide +kernel
theorem dX5_mark_65 : decode cX5_mark 65 = .ok (.getfield 153, 3) := by decide +kernel
theorem dX5_mark_68 : decode cX5_mark 68 = .ok (.invokeinterface 107 1, 5) := by decide +kernel
theorem dX5_mark_73 : decode cX5_mark 73 = .ok (.ireturn, 1) := by decide +kernel
theorem dX5_mark_74 : decode cX5_mark 74 = .ok (.aload_n 3, 1) := by decide +kernel
theorem dX5_mark_75 : decode cX5_mark 75 = .ok (.aload_n 3, 1) := by decide +kernel
theorem dX5_mark_76 : decode cX5_mark 76 = .ok (.getfield 138, 3) := by decide +kernel
theorem dX5_mark_79 : decode cX5_mark 79 = .ok (.iconst 0, 1) := by decide +kernel
theorem dX5_mark_80 : decode cX5_mark 80 = .ok (.invokevirtual 156, 3) := by decide +kernel
theorem dX5_mark_83 : decode cX5_mark 83 = .ok (.ireturn, 1) := by decide +kernel
theorem dX5_mark_84 : decode cX5_mark 84 = .ok (.aload_n 3, 1) := by decide +kernel
theorem dX5_mark_85 : decode cX5_mark 85 = .ok (.getfield 159, 3) := by decide +kernel
theorem dX5_mark_88 : decode cX5_mark 88 = .ok (.ireturn, 1) := by decide +kernel
set_option maxRecDepth 20000 in
theorem ggX5_speed_X5_shipOf : GoodIn wsX5_speed wsX5_shipOf := goodIn_r _ [5, 6, 7, 8, 9, 10, 11, 12, 13, 14, 15, 16, 17, 18, 19, 20, 21, 22, 23, 24, 25, 26, 27, 28, 29, 30, 63, 64, 65, 66, 67, 68, 69, 70, 71, 72, 73, 74, 75, 76, 77] (by decide +kernel) (by decide +kernel)
set_option maxRecDepth 20000 in
theorem gX5_speed_X5_shipOf : GoodIn wsX5_speed (wsV RX5 122 RX5 yX5_shipOf wsX5_shipOf) := goodIn_app (goodIn_of _ (by decide +kernel)) ggX5_speed_X5_shipOf
set_option maxRecDepth 20000 in
theorem ggX5_speed_X5_outside : GoodIn wsX5_speed wsX5_outside := goodIn_r _ [33] (by decide +kernel) (by decide +kernel)
set_option maxRecDepth 20000 in
theorem gX5_speed_X5_outside : GoodIn wsX5_speed (va_wsS RX5 60 yX5_outside wsX5_outside) := goodIn_app (goodIn_of _ (by decide +kernel)) ggX5_speed_X5_outside
set_option maxRecDepth 20000 in
theorem ggX5_speed_X3_speedIn : GoodIn wsX5_speed wsX3_speedIn := goodIn_r _ [38, 39, 40, 41, 42, 43, 44, 45, 4, 46, 47, 48, 49, 50, 51, 52, 53, 54, 55, 56, 57, 37, 58, 59, 60, 61, 62, 78, 79, 80, 81, 82, 83, 84, 85, 86, 87, 88, 89, 90, 91] (by decide +kernel) (by decide +kernel)
set_option maxRecDepth 20000 in
theorem gX5_speed_X3_speedIn : GoodIn wsX5_speed (wsV RX5 156 RX3 yX3_speedIn wsX3_speedIn) := goodIn_app (goodIn_of _ (by decide +kernel)) ggX5_speed_X3_speedIn
theorem dX5_speed_0 : decode cX5_speed 0 = .ok (.aload_n 0, 1) := by decide +kernel
theorem dX5_speed_1 : decode cX5_speed 1 = .ok (.iload_n 1, 1) := by decide +kernel
theorem dX5_speed_2 : decode cX5_speed 2 = .ok (.invokevirtual 122, 3) := by decide +kernel
theorem dX5_speed_5 : decode cX5_speed 5 = .ok (.astore 5, 2) := by decide +kernel
theorem dX5_speed_7 : decode cX5_speed 7 = .ok (.aload 5, 2) := by decide +kernel
theorem dX5_speed_9 : decode cX5_speed 9 = .ok (.ifnull 31, 3) := by decide +kernel
theorem dX5_speed_12 : decode cX5_speed 12 = .ok (.iload_n 2, 1) := by decide +kernel
theorem dX5_speed_13 : decode cX5_speed 13 = .ok (.bipush 7, 2) := by decide +kernel
theorem dX5_speed_15 : decode cX5_speed 15 = .ok (.invokestatic 60, 3) := by decide +kernel
theorem dX5_speed_18 : decode cX5_speed 18 = .ok (.ifCond .ne 22, 3) := by decide +kernel
theorem dX5_speed_21 : decode cX5_speed 21 = .ok (.iload_n 3, 1) := by decide +kernel
theorem dX5_speed_22 : decode cX5_speed 22 = .ok (.bipush 7, 2) := by decide +kernel
theorem dX5_speed_24 : decode cX5_speed 24 = .ok (.invokestatic 60, 3) := by decide +kernel
theorem dX5_speed_27 : decode cX5_speed 27 = .ok (.ifCond .ne 13, 3) := by decide +kernel
theorem dX5_speed_30 : decode cX5_speed 30 = .ok (.iload 4, 2) := by decide +kernel
theorem dX5_speed_32 : decode cX5_speed 32 = .ok (.bipush 9, 2) := by decide +kernel
theorem dX5_speed_34 : decode cX5_speed 34 = .ok (.invokestatic 60, 3) := by decide +kernel
theorem dX5_speed_37 : decode cX5_speed 37 = .ok (.ifCond .eq 5, 3) := by decide +kernel
theorem dX5_speed_40 : decode cX5_speed 40 = .ok (.iconst (-1), 1) := by decide +kernel
theorem dX5_speed_41 : decode cX5_speed 41 = .ok (.ireturn, 1) := by decide +kernel
theorem dX5_speed_42 : decode cX5_speed 42 = .ok (.aload 5, 2) := by decide +kernel
theorem dX5_speed_44 : decode cX5_speed 44 = .ok (.iload_n 2, 1) := by decide +kernel
theorem dX5_speed_45 : decode cX5_speed 45 = .ok (.bipush 10, 2) := by decide +kernel
theorem dX5_speed_47 : decode cX5_speed 47 = .ok (.iload_n 3, 1) := by decide +kernel
theorem dX5_speed_48 : decode cX5_speed 48 = .ok (.imul, 1) := by decide +kernel
theorem dX5_speed_49 : decode cX5_speed 49 = .ok (.iload 4, 2) := by decide +kernel
theorem dX5_speed_51 : decode cX5_speed 51 = .ok (.iadd, 1) := by decide +kernel
theorem dX5_speed_52 : decode cX5_speed 52 = .ok (.invokevirtual 156, 3) := by decide +kernel
theorem dX5_speed_55 : decode cX5_speed 55 = .ok (.ireturn, 1) := by decide +kernel
set_option maxRecDepth 20000 in
theorem ggX5_order_X5_shipOf : GoodIn wsX5_order wsX5_shipOf := goodIn_r _ [9, 10, 11, 12, 13, 14, 15, 16, 17, 18, 19, 20, 21, 22, 23, 24, 25, 26, 27, 28, 29, 30, 31, 32, 33, 34, 126, 127, 128, 129, 130, 131, 132, 133, 134, 135, 136, 137, 138, 139, 140] (by decide +kernel) (by decide +kernel)
set_option maxRecDepth 20000 in
theorem gX5_order_X5_shipOf : GoodIn wsX5_order (wsV RX5 122 RX5 yX5_shipOf wsX5_shipOf) := goodIn_app (goodIn_of _ (by decide +kernel)) ggX5_order_X5_shipOf
set_option maxRecDepth 20000 in
theorem ggX5_order_X5_isNoSpan : GoodIn wsX5_order wsX5_isNoSpan := goodIn_r _ [37, 38, 39, 8, 40] (by decide +kernel) (by decide +kernel)
set_option maxRecDepth 20000 in
theorem gX5_order_X5_isNoSpan : GoodIn wsX5_order (va_wsS RX5 162 yX5_isNoSpan wsX5_isNoSpan) := goodIn_app (goodIn_of _ (by decide +kernel)) ggX5_order_X5_isNoSpan
set_option maxRecDepth 20000 in
theorem ggX5_order_X5_outside : GoodIn wsX5_order wsX5_outside := goodIn_r _ [40] (by decide +kernel) (by decide +kernel)
set_option maxRecDepth 20000 in
theorem gX5_order_X5_outside : GoodIn wsX5_order (va_wsS RX5 60 yX5_outside wsX5_outside) := goodIn_app (goodIn_of _ (by decide +kernel)) ggX5_order_X5_outside
set_option maxRecDepth 20000 in
theorem ggX5_order_Jx4a65c_size_8abf5 : GoodIn wsX5_order wsJx4a65c_size_8abf5 := goodIn_r _ [16, 17, 138, 139, 140] (by decide +kernel) (by decide +kernel)
set_option maxRecDepth 20000 in
theorem gX5_order_Jx4a65c_size_8abf5_f107Jx4a65c : GoodIn wsX5_order (va_wsF RX5 107 RJx4a65c ⟨"java/util/List", "size", "()I"⟩ yJx4a65c_size_8abf5 wsJx4a65c_size_8abf5) := goodIn_app (goodIn_of _ (by decide +kernel)) ggX5_order_Jx4a65c_size_8abf5
set_option maxRecDepth 20000 in
theorem ggX5_order_X0_init : GoodIn wsX5_order wsX0_init := goodIn_r _ [43, 44, 45, 46, 47, 48, 49, 50, 51, 52, 120, 121, 122, 123, 124, 125] (by decide +kernel) (by decide +kernel)
set_option maxRecDepth 20000 in
theorem gX5_order_X0_init : GoodIn wsX5_order (wsX0_init) := ggX5_order_X0_init
set_option maxRecDepth 20000 in
theorem ggX5_order_Jx4a65c_add_9ea2d : GoodIn wsX5_order wsJx4a65c_add_9ea2d := goodIn_r _ [56, 57, 58, 34, 17, 59, 60, 61, 15, 62, 63, 64, 65, 66, 67, 68, 69, 70, 71, 72, 73, 74, 75, 76, 77, 78, 79, 80, 81, 82, 83, 84, 85, 86, 87, 88, 89, 90, 91, 92, 93, 94, 95, 96, 97, 98, 99, 100, 101, 102, 103, 104, 105, 138, 139, 140] (by decide +kernel) (by decide +kernel)
set_option maxRecDepth 20000 in
theorem gX5_order_Jx4a65c_add_9ea2d_f118Jx4a65c : GoodIn wsX5_order (va_wsF RX5 118 RJx4a65c ⟨"java/util/List", "add", "(Ljava/lang/Object;)Z"⟩ yJx4a65c_add_9ea2d wsJx4a65c_add_9ea2d) := goodIn_app (goodIn_of _ (by decide +kernel)) ggX5_order_Jx4a65c_add_9ea2d
theorem dX5_order_0 : decode cX5_order 0 = .ok (.aload_n 0, 1) := by decide +kernel
theorem dX5_order_1 : decode cX5_order 1 = .ok (.iload_n 1, 1) := by decide +kernel
theorem dX5_order_2 : decode cX5_order 2 = .ok (.invokevirtual 122, 3) := by decide +kernel
theorem dX5_order_5 : decode cX5_order 5 = .ok (.astore 8, 2) := by decide +kernel
theorem dX5_order_7 : decode cX5_order 7 = .ok (.aload 8, 2) := by decide +kernel
theorem dX5_order_9 : decode cX5_order 9 = .ok (.ifnull 25, 3) := by decide +kernel
theorem dX5_order_12 : decode cX5_order 12 = .ok (.iload_n 2, 1) := by decide +kernel
theorem dX5_order_13 : decode cX5_order 13 = .ok (.iload_n 3, 1) := by decide +kernel
theorem dX5_order_14 : decode cX5_order 14 = .ok (.bipush 15, 2) := by decide +kernel
theorem dX5_order_16 : decode cX5_order 16 = .ok (.invokestatic 162, 3) := by decide +kernel
theorem dX5_order_19 : decode cX5_order 19 = .ok (.ifCond .ne 15, 3) := by decide +kernel
theorem dX5_order_22 : decode cX5_order 22 = .ok (.iload 4, 2) := by decide +kernel
theorem dX5_order_24 : decode cX5_order 24 = .ok (.iload 5, 2) := by decide +kernel
theorem dX5_order_26 : decode cX5_order 26 = .ok (.bipush 9, 2) := by decide +kernel
theorem dX5_order_28 : decode cX5_order 28 = .ok (.invokestatic 162, 3) := by decide +kernel
theorem dX5_order_31 : decode cX5_order 31 = .ok (.ifCond .eq 5, 3) := by decide +kernel
theorem dX5_order_34 : decode cX5_order 34 = .ok (.iconst (-1), 1) := by decide +kernel
theorem dX5_order_35 : decode cX5_order 35 = .ok (.ireturn, 1) := by decide +kernel
theorem dX5_order_36 : decode cX5_order 36 = .ok (.iload 6, 2) := by decide +kernel
theorem dX5_order_38 : decode cX5_order 38 = .ok (.bipush 9, 2) := by decide +kernel
theorem dX5_order_40 : decode cX5_order 40 = .ok (.invokestatic 60, 3) := by decide +kernel
theorem dX5_order_43 : decode cX5_order 43 = .ok (.ifCond .ne 13, 3) := by decide +kernel
theorem dX5_order_46 : decode cX5_order 46 = .ok (.iload 7, 2) := by decide +kernel
theorem dX5_order_48 : decode cX5_order 48 = .ok (.bipush 7, 2) := by decide +kernel
theorem dX5_order_50 : decode cX5_order 50 = .ok (.invokestatic 60, 3) := by decide +kernel
theorem dX5_order_53 : decode cX5_order 53 = .ok (.ifCond .eq 5, 3) := by decide +kernel
theorem dX5_order_56 : decode cX5_order 56 = .ok (.iconst (-1), 1) := by decide +kernel
theorem dX5_order_57 : decode cX5_order 57 = .ok (.ireturn, 1) := by decide +kernel
theorem dX5_order_58 : decode cX5_order 58 = .ok (.aload 8, 2) := by decide +kernel
theorem dX5_order_60 : decode cX5_order 60 = .ok (.getfield 153, 3) := by decide +kernel
theorem dX5_order_63 : decode cX5_order 63 = .ok (.invokeinterface 107 1, 5) := by decide +kernel
theorem dX5_order_68 : decode cX5_order 68 = .ok (.bipush 20, 2) := by decide +kernel
theorem dX5_order_70 : decode cX5_order 70 = .ok (.if_icmp .lt 6, 3) := by decide +kernel
theorem dX5_order_73 : decode cX5_order 73 = .ok (.bipush (-2), 2) := by decide +kernel
theorem dX5_order_75 : decode cX5_order 75 = .ok (.ireturn, 1) := by decide +kernel
theorem dX5_order_76 : decode cX5_order 76 = .ok (.aload 8, 2) := by decide +kernel
theorem dX5_order_78 : decode cX5_order 78 = .ok (.getfield 153, 3) := by decide +kernel
theorem dX5_order_81 : decode cX5_order 81 = .ok (.new 166, 3) := by decide +kernel
theorem dX5_order_84 : decode cX5_order 84 = .ok (.dup, 1) := by decide +kernel
theorem dX5_order_85 : decode cX5_order 85 = .ok (.iload_n 2, 1) := by decide +kernel
theorem dX5_order_86 : decode cX5_order 86 = .ok (.iload_n 3, 1) := by decide +kernel
theorem dX5_order_87 : decode cX5_order 87 = .ok (.iload 4, 2) := by decide +kernel
theorem dX5_order_89 : decode cX5_order 89 = .ok (.iload 5, 2) := by decide +kernel
theorem dX5_order_91 : decode cX5_order 91 = .ok (.iload 6, 2) := by decide +kernel
theorem dX5_order_93 : decode cX5_order 93 = .ok (.iload 7, 2) := by decide +kernel
theorem dX5_order_95 : decode cX5_order 95 = .ok (.invokespecial 168, 3) := by decide +kernel
theorem dX5_order_98 : decode cX5_order 98 = .ok (.invokeinterface 118 2, 5) := by decide +kernel
theorem dX5_order_103 : decode cX5_order 103 = .ok (.pop, 1) := by decide +kernel
theorem dX5_order_104 : decode cX5_order 104 = .ok (.aload 8, 2) := by decide +kernel
theorem dX5_order_106 : decode cX5_order 106 = .ok (.getfield 153, 3) := by decide +kernel
theorem dX5_order_109 : decode cX5_order 109 = .ok (.invokeinterface 107 1, 5) := by decide +kernel
theorem dX5_order_114 : decode cX5_order 114 = .ok (.ireturn, 1) := by decide +kernel
set_option maxRecDepth 20000 in
theorem ggX5_home_X5_isNoWater : GoodIn wsX5_home wsX5_isNoWater := goodIn_r _ [8, 9, 10, 11, 7, 12, 13, 14, 15, 16, 17, 18, 19, 20, 21, 22, 23, 24, 25, 26, 27, 28, 29, 30, 31, 32, 33] (by decide +kernel) (by decide +kernel)
set_option maxRecDepth 20000 in
theorem gX5_home_X5_isNoWater : GoodIn wsX5_home (wsV RX5 104 RX5 yX5_isNoWater wsX5_isNoWater) := goodIn_app (goodIn_of _ (by decide +kernel)) ggX5_home_X5_isNoWater
set_option maxRecDepth 20000 in
theorem ggX5_home_X5_outside : GoodIn wsX5_home wsX5_outside := goodIn_r _ [12] (by decide +kernel) (by decide +kernel)
set_option maxRecDepth 20000 in
theorem gX5_home_X5_outside : GoodIn wsX5_home (va_wsS RX5 60 yX5_outside wsX5_outside) := goodIn_app (goodIn_of _ (by decide +kernel)) ggX5_home_X5_outside
theorem dX5_home_0 : decode cX5_home 0 = .ok (.aload_n 0, 1) := by decide +kernel
theorem dX5_home_1 : decode cX5_home 1 = .ok (.iload_n 1, 1) := by decide +kernel
theorem dX5_home_2 : decode cX5_home 2 = .ok (.invokevirtual 104, 3) := by decide +kernel
theorem dX5_home_5 : decode cX5_home 5 = .ok (.ifCond .ne 12, 3) := by decide +kernel
theorem dX5_home_8 : decode cX5_home 8 = .ok (.iload_n 2, 1) := by decide +kernel
theorem dX5_home_9 : decode cX5_home 9 = .ok (.bipush 23, 2) := by decide +kernel
theorem dX5_home_11 : decode cX5_home 11 = .ok (.invokestatic 60, 3) := by decide +kernel
theorem dX5_home_14 : decode cX5_home 14 = .ok (.ifCond .eq 5, 3) := by decide +kernel
theorem dX5_home_17 : decode cX5_home 17 = .ok (.iconst (-1), 1) := by decide +kernel
theorem dX5_home_18 : decode cX5_home 18 = .ok (.ireturn, 1) := by decide +kernel
theorem dX5_home_19 : decode cX5_home 19 = .ok (.aload_n 0, 1) := by decide +kernel
theorem dX5_home_20 : decode cX5_home 20 = .ok (.getfield 38, 3) := by decide +kernel
theorem dX5_home_23 : decode cX5_home 23 = .ok (.ifCond .eq 6, 3) := by decide +kernel
theorem dX5_home_26 : decode cX5_home 26 = .ok (.bipush (-4), 2) := by decide +kernel
theorem dX5_home_28 : decode cX5_home 28 = .ok (.ireturn, 1) := by decide +kernel
theorem dX5_home_29 : decode cX5_home 29 = .ok (.aload_n 0, 1) := by decide +kernel
theorem dX5_home_30 : decode cX5_home 30 = .ok (.iload_n 1, 1) := by decide +kernel
theorem dX5_home_31 : decode cX5_home 31 = .ok (.putfield 41, 3) := by decide +kernel
theorem dX5_home_34 : decode cX5_home 34 = .ok (.aload_n 0, 1) := by decide +kernel
theorem dX5_home_35 : decode cX5_home 35 = .ok (.iload_n 2, 1) := by decide +kernel
theorem dX5_home_36 : decode cX5_home 36 = .ok (.putfield 44, 3) := by decide +kernel
theorem dX5_home_39 : decode cX5_home 39 = .ok (.iconst 1, 1) := by decide +kernel
theorem dX5_home_40 : decode cX5_home 40 = .ok (.ireturn, 1) := by decide +kernel
set_option maxRecDepth 20000 in
theorem ggX5_run_X5_outside : GoodIn wsX5_run wsX5_outside := goodIn_r _ [8] (by decide +kernel) (by decide +kernel)
set_option maxRecDepth 20000 in
theorem gX5_run_X5_outside : GoodIn wsX5_run (va_wsS RX5 60 yX5_outside wsX5_outside) := goodIn_app (goodIn_of _ (by decide +kernel)) ggX5_run_X5_outside
set_option maxRecDepth 20000 in
theorem ggX5_run_X5_shipsHome : GoodIn wsX5_run wsX5_shipsHome := goodIn_r _ [12, 3, 4, 13, 14, 15, 16, 17, 18, 19, 20, 21, 22, 23, 24, 25, 26, 27, 28, 29, 30, 31, 32, 33, 34, 35, 36, 37, 38, 39, 40, 41, 142, 143, 144, 145, 146, 147, 148, 149, 150, 151, 152, 153, 154, 155, 156, 157, 158, 159, 160, 161, 162, 163, 164, 165, 166, 167, 168, 169, 170] (by decide +kernel) (by decide +kernel)
set_option maxRecDepth 20000 in
theorem gX5_run_X5_shipsHome : GoodIn wsX5_run (wsV RX5 172 RX5 yX5_shipsHome wsX5_shipsHome) := goodIn_app (goodIn_of _ (by decide +kernel)) ggX5_run_X5_shipsHome
set_option maxRecDepth 20000 in
theorem ggX5_run_Jx4a65c_size_8abf5 : GoodIn wsX5_run wsJx4a65c_size_8abf5 := goodIn_r _ [17, 18, 154, 155, 156] (by decide +kernel) (by decide +kernel)
set_option maxRecDepth 20000 in
theorem gX5_run_Jx4a65c_size_8abf5_f107Jx4a65c : GoodIn wsX5_run (va_wsF RX5 107 RJx4a65c ⟨"java/util/List", "size", "()I"⟩ yJx4a65c_size_8abf5 wsJx4a65c_size_8abf5) := goodIn_app (goodIn_of _ (by decide +kernel)) ggX5_run_Jx4a65c_size_8abf5
set_option maxRecDepth 20000 in
theorem ggX5_run_Jx4a65c_get_915e3 : GoodIn wsX5_run wsJx4a65c_get_915e3 := goodIn_r _ [22, 18, 23, 24, 25, 26, 27, 28, 29, 30, 31, 32, 33, 16, 34, 35, 154, 155, 156] (by decide +kernel) (by decide +kernel)
set_option maxRecDepth 20000 in
theorem gX5_run_Jx4a65c_get_915e3_f175Jx4a65c : GoodIn wsX5_run (va_wsF RX5 175 RJx4a65c ⟨"java/util/List", "get", "(I)Ljava/lang/Object;"⟩ yJx4a65c_get_915e3 wsJx4a65c_get_915e3) := goodIn_app (goodIn_of _ (by decide +kernel)) ggX5_run_Jx4a65c_get_915e3
set_option maxRecDepth 20000 in
theorem ggX5_run_X5_sail : GoodIn wsX5_run wsX5_sail := goodIn_r _ [45, 2, 46, 47, 48, 49, 36, 37, 38, 39, 40, 41, 50, 51, 7, 52, 53, 54, 55, 56, 57, 58, 59, 60, 61, 62, 63, 6, 8, 64, 65, 66, 67, 68, 69, 70, 71, 72, 73, 14, 15, 16, 17, 18, 74, 20, 21, 22, 23, 24, 25, 26, 27, 28, 29, 30, 31, 32, 33, 34, 35, 75, 76, 77, 78, 79, 80, 81, 82, 83, 84, 85, 86, 87, 88, 89, 90, 91, 92, 93, 94, 95, 96, 97, 98, 99, 100, 101, 102, 103, 104, 105, 106, 107, 108, 109, 110, 111, 112, 113, 114, 115, 116, 117, 118, 119, 120, 121, 122, 123, 124, 125, 126, 127, 128, 129, 130, 131, 132, 133, 134, 135, 136, 137, 138, 139, 140, 141, 142, 143, 144, 145, 146, 147, 148, 149, 150, 151, 152, 153, 157, 158, 159, 160, 161, 162, 163, 164, 165, 166, 167, 168, 169, 170, 171, 172, 173, 174, 175, 176, 177, 178, 179, 154, 155, 156] (by decide +kernel) (by decide +kernel)
end
section
set_option maxRecDepth 20000 in
theorem gX5_run_X5_sail : GoodIn wsX5_run (wsV RX5 179 RX5 yX5_sail wsX5_sail) := goodIn_app (goodIn_of _ (by decide +kernel)) ggX5_run_X5_sail
theorem dX5_run_0 : decode cX5_run 0 = .ok (.iload_n 1, 1) := by decide +kernel
theorem dX5_run_1 : decode cX5_run 1 = .ok (.sipush 2000, 3) := by decide +kernel
theorem dX5_run_4 : decode cX5_run 4 = .ok (.invokestatic 60, 3) := by decide +kernel
theorem dX5_run_7 : decode cX5_run 7 = .ok (.ifCond .eq 5, 3) := by decide +kernel
theorem dX5_run_10 : decode cX5_run 10 = .ok (.iconst (-1), 1) := by decide +kernel
theorem dX5_run_11 : decode cX5_run 11 = .ok (.ireturn, 1) := by decide +kernel
theorem dX5_run_12 : decode cX5_run 12 = .ok (.iload_n 1, 1) := by decide +kernel
theorem dX5_run_13 : decode cX5_run 13 = .ok (.ldc 171, 2) := by decide +kernel
theorem dX5_run_15 : decode cX5_run 15 = .ok (.aload_n 0, 1) := by decide +kernel
theorem dX5_run_16 : decode cX5_run 16 = .ok (.getfield 38, 3) := by decide +kernel
theorem dX5_run_19 : decode cX5_run 19 = .ok (.isub, 1) := by decide +kernel
theorem dX5_run_20 : decode cX5_run 20 = .ok (.if_icmp .le 6, 3) := by decide +kernel
theorem dX5_run_23 : decode cX5_run 23 = .ok (.bipush (-2), 2) := by decide +kernel
theorem dX5_run_25 : decode cX5_run 25 = .ok (.ireturn, 1) := by decide +kernel
theorem dX5_run_26 : decode cX5_run 26 = .ok (.aload_n 0, 1) := by decide +kernel
theorem dX5_run_27 : decode cX5_run 27 = .ok (.invokevirtual 172, 3) := by decide +kernel
theorem dX5_run_30 : decode cX5_run 30 = .ok (.istore_n 2, 1) := by decide +kernel
theorem dX5_run_31 : decode cX5_run 31 = .ok (.iconst 0, 1) := by decide +kernel
theorem dX5_run_32 : decode cX5_run 32 = .ok (.istore_n 3, 1) := by decide +kernel
theorem dX5_run_33 : decode cX5_run 33 = .ok (.iload_n 3, 1) := by decide +kernel
theorem dX5_run_34 : decode cX5_run 34 = .ok (.aload_n 0, 1) := by decide +kernel
theorem dX5_run_35 : decode cX5_run 35 = .ok (.getfield 26, 3) := by decide +kernel
theorem dX5_run_38 : decode cX5_run 38 = .ok (.invokeinterface 107 1, 5) := by decide +kernel
theorem dX5_run_43 : decode cX5_run 43 = .ok (.if_icmp .ge 32, 3) := by decide +kernel
theorem dX5_run_46 : decode cX5_run 46 = .ok (.aload_n 0, 1) := by decide +kernel
theorem dX5_run_47 : decode cX5_run 47 = .ok (.aload_n 0, 1) := by decide +kernel
theorem dX5_run_48 : decode cX5_run 48 = .ok (.getfield 26, 3) := by decide +kernel
theorem dX5_run_51 : decode cX5_run 51 = .ok (.iload_n 3, 1) := by decide +kernel
theorem dX5_run_52 : decode cX5_run 52 = .ok (.invokeinterface 175 2, 5) := by decide +kernel
theorem dX5_run_57 : decode cX5_run 57 = .ok (.checkcast 113, 3) := by decide +kernel
theorem dX5_run_60 : decode cX5_run 60 = .ok (.aload_n 0, 1) := by decide +kernel
theorem dX5_run_61 : decode cX5_run 61 = .ok (.getfield 38, 3) := by decide +kernel
theorem dX5_run_64 : decode cX5_run 64 = .ok (.iload_n 1, 1) := by decide +kernel
theorem dX5_run_65 : decode cX5_run 65 = .ok (.iadd, 1) := by decide +kernel
theorem dX5_run_66 : decode cX5_run 66 = .ok (.invokevirtual 179, 3) := by decide +kernel
theorem dX5_run_69 : decode cX5_run 69 = .ok (.iinc 3 1, 3) := by decide +kernel
theorem dX5_run_72 : decode cX5_run 72 = .ok (.goto (-39), 3) := by decide +kernel
theorem dX5_run_75 : decode cX5_run 75 = .ok (.aload_n 0, 1) := by decide +kernel
theorem dX5_run_76 : decode cX5_run 76 = .ok (.dup, 1) := by decide +kernel
theorem dX5_run_77 : decode cX5_run 77 = .ok (.getfield 38, 3) := by decide +kernel
theorem dX5_run_80 : decode cX5_run 80 = .ok (.iload_n 1, 1) := by decide +kernel
theorem dX5_run_81 : decode cX5_run 81 = .ok (.iadd, 1) := by decide +kernel
theorem dX5_run_82 : decode cX5_run 82 = .ok (.putfield 38, 3) := by decide +kernel
theorem dX5_run_85 : decode cX5_run 85 = .ok (.aload_n 0, 1) := by decide +kernel
theorem dX5_run_86 : decode cX5_run 86 = .ok (.invokevirtual 172, 3) := by decide +kernel
theorem dX5_run_89 : decode cX5_run 89 = .ok (.iload_n 2, 1) := by decide +kernel
theorem dX5_run_90 : decode cX5_run 90 = .ok (.isub, 1) := by decide +kernel
theorem dX5_run_91 : decode cX5_run 91 = .ok (.ireturn, 1) := by decide +kernel
set_option maxRecDepth 20000 in
theorem ggX5_first_X5_theFirst : GoodIn wsX5_first wsX5_theFirst := goodIn_r _ [6, 7, 8, 9, 10, 11, 12, 13, 14, 15, 16, 17, 18, 19, 20, 21, 22, 23, 24, 25, 26, 27, 28, 29, 30, 31, 32, 33, 34, 35, 36, 37, 38, 39, 40, 41, 42, 43, 58, 59, 60, 61, 62, 63, 64, 65, 66, 67, 68, 69, 70, 71, 72, 44, 45, 46, 47, 48, 49, 50, 51, 52, 53, 54, 55, 56, 57] (by decide +kernel) (by decide +kernel)
set_option maxRecDepth 20000 in
theorem gX5_first_X5_theFirst : GoodIn wsX5_first (wsV RX5 183 RX5 yX5_theFirst wsX5_theFirst) := goodIn_app (goodIn_of _ (by decide +kernel)) ggX5_first_X5_theFirst
theorem dX5_first_0 : decode cX5_first 0 = .ok (.aload_n 0, 1) := by decide +kernel
theorem dX5_first_1 : decode cX5_first 1 = .ok (.invokevirtual 183, 3) := by decide +kernel
theorem dX5_first_4 : decode cX5_first 4 = .ok (.astore_n 1, 1) := by decide +kernel
theorem dX5_first_5 : decode cX5_first 5 = .ok (.aload_n 1, 1) := by decide +kernel
theorem dX5_first_6 : decode cX5_first 6 = .ok (.ifnonnull 8, 3) := by decide +kernel
theorem dX5_first_9 : decode cX5_first 9 = .ok (.bipush (-9), 2) := by decide +kernel
theorem dX5_first_11 : decode cX5_first 11 = .ok (.goto 7, 3) := by decide +kernel
theorem dX5_first_14 : decode cX5_first 14 = .ok (.aload_n 1, 1) := by decide +kernel
theorem dX5_first_15 : decode cX5_first 15 = .ok (.getfield 187, 3) := by decide +kernel
theorem dX5_first_18 : decode cX5_first 18 = .ok (.ireturn, 1) := by decide +kernel
set_option maxRecDepth 20000 in
theorem ggX5_least_X5_shipOf : GoodIn wsX5_least wsX5_shipOf := goodIn_r _ [8, 9, 10, 11, 12, 13, 14, 15, 16, 17, 18, 19, 20, 21, 22, 23, 24, 25, 26, 27, 28, 29, 30, 31, 32, 33, 121, 122, 123, 124, 125, 126, 127, 128, 129, 130, 131, 132, 133, 134, 135] (by decide +kernel) (by decide +kernel)
set_option maxRecDepth 20000 in
theorem gX5_least_X5_shipOf : GoodIn wsX5_least (wsV RX5 122 RX5 yX5_shipOf wsX5_shipOf) := goodIn_app (goodIn_of _ (by decide +kernel)) ggX5_least_X5_shipOf
set_option maxRecDepth 20000 in
theorem ggX5_least_X5_isNoWater : GoodIn wsX5_least wsX5_isNoWater := goodIn_r _ [37, 3, 38, 39, 7, 40, 41, 42, 43, 44, 45, 46, 121, 122, 123, 124, 125, 126, 127, 128, 129, 130, 131, 132, 136, 137, 138] (by decide +kernel) (by decide +kernel)
set_option maxRecDepth 20000 in
theorem gX5_least_X5_isNoWater : GoodIn wsX5_least (wsV RX5 104 RX5 yX5_isNoWater wsX5_isNoWater) := goodIn_app (goodIn_of _ (by decide +kernel)) ggX5_least_X5_isNoWater
set_option maxRecDepth 20000 in
theorem ggX5_least_X5_outside : GoodIn wsX5_least wsX5_outside := goodIn_r _ [40] (by decide +kernel) (by decide +kernel)
set_option maxRecDepth 20000 in
theorem gX5_least_X5_outside : GoodIn wsX5_least (va_wsS RX5 60 yX5_outside wsX5_outside) := goodIn_app (goodIn_of _ (by decide +kernel)) ggX5_least_X5_outside
set_option maxRecDepth 20000 in
theorem ggX5_least_X1_leastHours : GoodIn wsX5_least wsX1_leastHours := goodIn_r _ [51, 52, 53, 39, 7, 40, 54, 55, 56, 50, 57, 58, 59, 60, 61, 62, 63, 64, 44, 65, 66, 42, 43, 45, 46, 67, 68, 69, 70, 71, 72, 73, 74, 75, 76, 77, 78, 79, 80, 81, 82, 83, 84, 85, 86, 87, 88, 89, 90, 91, 92, 93, 94, 95, 96, 97, 98, 99, 100, 101, 102, 103, 104, 105, 106, 107, 108, 109, 110, 111, 112, 113, 114, 115, 116, 117, 118, 119, 120, 139, 140, 136, 137, 138, 141, 142, 143, 144, 145, 146, 147, 148, 149, 150, 151, 152, 153, 154] (by decide +kernel) (by decide +kernel)
set_option maxRecDepth 20000 in
theorem gX5_least_X1_leastHours : GoodIn wsX5_least (wsV RX5 191 RX1 yX1_leastHours wsX1_leastHours) := goodIn_app (goodIn_of _ (by decide +kernel)) ggX5_least_X1_leastHours
theorem dX5_least_0 : decode cX5_least 0 = .ok (.aload_n 0, 1) := by decide +kernel
theorem dX5_least_1 : decode cX5_least 1 = .ok (.iload_n 1, 1) := by decide +kernel
theorem dX5_least_2 : decode cX5_least 2 = .ok (.invokevirtual 122, 3) := by decide +kernel
theorem dX5_least_5 : decode cX5_least 5 = .ok (.astore 5, 2) := by decide +kernel
theorem dX5_least_7 : decode cX5_least 7 = .ok (.aload 5, 2) := by decide +kernel
theorem dX5_least_9 : decode cX5_least 9 = .ok (.ifnull 29, 3) := by decide +kernel
theorem dX5_least_12 : decode cX5_least 12 = .ok (.aload_n 0, 1) := by decide +kernel
theorem dX5_least_13 : decode cX5_least 13 = .ok (.iload_n 2, 1) := by decide +kernel
theorem dX5_least_14 : decode cX5_least 14 = .ok (.invokevirtual 104, 3) := by decide +kernel
theorem dX5_least_17 : decode cX5_least 17 = .ok (.ifCond .ne 21, 3) := by decide +kernel
theorem dX5_least_20 : decode cX5_least 20 = .ok (.aload_n 0, 1) := by decide +kernel
theorem dX5_least_21 : decode cX5_least 21 = .ok (.iload_n 3, 1) := by decide +kernel
theorem dX5_least_22 : decode cX5_least 22 = .ok (.invokevirtual 104, 3) := by decide +kernel
theorem dX5_least_25 : decode cX5_least 25 = .ok (.ifCond .ne 13, 3) := by decide +kernel
theorem dX5_least_28 : decode cX5_least 28 = .ok (.iload 4, 2) := by decide +kernel
theorem dX5_least_30 : decode cX5_least 30 = .ok (.ldc 190, 2) := by decide +kernel
theorem dX5_least_32 : decode cX5_least 32 = .ok (.invokestatic 60, 3) := by decide +kernel
theorem dX5_least_35 : decode cX5_least 35 = .ok (.ifCond .eq 5, 3) := by decide +kernel
theorem dX5_least_38 : decode cX5_least 38 = .ok (.iconst (-1), 1) := by decide +kernel
theorem dX5_least_39 : decode cX5_least 39 = .ok (.ireturn, 1) := by decide +kernel
theorem dX5_least_40 : decode cX5_least 40 = .ok (.aload_n 0, 1) := by decide +kernel
theorem dX5_least_41 : decode cX5_least 41 = .ok (.getfield 19, 3) := by decide +kernel
theorem dX5_least_44 : decode cX5_least 44 = .ok (.aload_n 0, 1) := by decide +kernel
theorem dX5_least_45 : decode cX5_least 45 = .ok (.getfield 10, 3) := by decide +kernel
theorem dX5_least_48 : decode cX5_least 48 = .ok (.aload 5, 2) := by decide +kernel
theorem dX5_least_50 : decode cX5_least 50 = .ok (.iload_n 2, 1) := by decide +kernel
theorem dX5_least_51 : decode cX5_least 51 = .ok (.iload_n 3, 1) := by decide +kernel
theorem dX5_least_52 : decode cX5_least 52 = .ok (.iload 4, 2) := by decide +kernel
theorem dX5_least_54 : decode cX5_least 54 = .ok (.invokevirtual 191, 3) := by decide +kernel
theorem dX5_least_57 : decode cX5_least 57 = .ok (.ireturn, 1) := by decide +kernel
set_option maxRecDepth 20000 in
theorem ggX5_sight_X5_shipOf : GoodIn wsX5_sight wsX5_shipOf := goodIn_r _ [11, 12, 13, 14, 15, 16, 17, 18, 19, 20, 21, 22, 23, 24, 25, 26, 27, 28, 29, 30, 31, 32, 33, 34, 35, 36, 115, 116, 117, 118, 119, 120, 121, 122, 123, 124, 125, 126, 143, 144, 145] (by decide +kernel) (by decide +kernel)
set_option maxRecDepth 20000 in
theorem gX5_sight_X5_shipOf : GoodIn wsX5_sight (wsV RX5 122 RX5 yX5_shipOf wsX5_shipOf) := goodIn_app (goodIn_of _ (by decide +kernel)) ggX5_sight_X5_shipOf
set_option maxRecDepth 20000 in
theorem ggX5_sight_X5_outside : GoodIn wsX5_sight wsX5_outside := goodIn_r _ [39] (by decide +kernel) (by decide +kernel)
set_option maxRecDepth 20000 in
theorem gX5_sight_X5_outside : GoodIn wsX5_sight (va_wsS RX5 60 yX5_outside wsX5_outside) := goodIn_app (goodIn_of _ (by decide +kernel)) ggX5_sight_X5_outside
set_option maxRecDepth 20000 in
theorem ggX5_sight_X3_isUnseenFrom : GoodIn wsX5_sight wsX3_isUnseenFrom := goodIn_r _ [44, 45, 46, 47, 43, 48, 49, 50, 51, 52, 15, 16, 17, 18, 19, 53, 21, 22, 23, 24, 25, 26, 27, 28, 29, 30, 31, 32, 33, 34, 35, 36, 127, 128, 129, 130, 131, 132, 133, 134, 135, 136, 137, 138, 139, 140, 141, 142, 143, 144, 145] (by decide +kernel) (by decide +kernel)
set_option maxRecDepth 20000 in
theorem gX5_sight_X3_isUnseenFrom : GoodIn wsX5_sight (wsV RX5 195 RX3 yX3_isUnseenFrom wsX3_isUnseenFrom) := goodIn_app (goodIn_of _ (by decide +kernel)) ggX5_sight_X3_isUnseenFrom
set_option maxRecDepth 20000 in
theorem ggX5_sight_X4_init : GoodIn wsX5_sight wsX4_init := goodIn_r _ [56, 57, 58, 59, 60, 61, 141, 142] (by decide +kernel) (by decide +kernel)
set_option maxRecDepth 20000 in
theorem gX5_sight_X4_init : GoodIn wsX5_sight (wsX4_init) := ggX5_sight_X4_init
set_option maxRecDepth 20000 in
theorem ggX5_sight_Jx4a65c_add_9ea2d : GoodIn wsX5_sight wsJx4a65c_add_9ea2d := goodIn_r _ [65, 66, 67, 36, 19, 68, 69, 70, 17, 71, 72, 73, 74, 75, 76, 77, 78, 79, 80, 81, 82, 83, 84, 85, 86, 87, 88, 89, 90, 91, 92, 93, 94, 95, 96, 97, 98, 99, 100, 101, 102, 103, 104, 105, 106, 107, 108, 109, 110, 111, 112, 113, 114, 143, 144, 145] (by decide +kernel) (by decide +kernel)
set_option maxRecDepth 20000 in
theorem gX5_sight_Jx4a65c_add_9ea2d_f118Jx4a65c : GoodIn wsX5_sight (va_wsF RX5 118 RJx4a65c ⟨"java/util/List", "add", "(Ljava/lang/Object;)Z"⟩ yJx4a65c_add_9ea2d wsJx4a65c_add_9ea2d) := goodIn_app (goodIn_of _ (by decide +kernel)) ggX5_sight_Jx4a65c_add_9ea2d
theorem dX5_sight_0 : decode cX5_sight 0 = .ok (.aload_n 0, 1) := by decide +kernel
theorem dX5_sight_1 : decode cX5_sight 1 = .ok (.iload_n 1, 1) := by decide +kernel
theorem dX5_sight_2 : decode cX5_sight 2 = .ok (.invokevirtual 122, 3) := by decide +kernel
theorem dX5_sight_5 : decode cX5_sight 5 = .ok (.astore 4, 2) := by decide +kernel
theorem dX5_sight_7 : decode cX5_sight 7 = .ok (.aload 4, 2) := by decide +kernel
theorem dX5_sight_9 : decode cX5_sight 9 = .ok (.ifnull 31, 3) := by decide +kernel
theorem dX5_sight_12 : decode cX5_sight 12 = .ok (.iload_n 2, 1) := by decide +kernel
theorem dX5_sight_13 : decode cX5_sight 13 = .ok (.sipush 159, 3) := by decide +kernel
theorem dX5_sight_16 : decode cX5_sight 16 = .ok (.invokestatic 60, 3) := by decide +kernel
theorem dX5_sight_19 : decode cX5_sight 19 = .ok (.ifCond .ne 21, 3) := by decide +kernel
theorem dX5_sight_22 : decode cX5_sight 22 = .ok (.iload_n 3, 1) := by decide +kernel
theorem dX5_sight_23 : decode cX5_sight 23 = .ok (.ldc 171, 2) := by decide +kernel
theorem dX5_sight_25 : decode cX5_sight 25 = .ok (.invokestatic 60, 3) := by decide +kernel
theorem dX5_sight_28 : decode cX5_sight 28 = .ok (.ifCond .ne 12, 3) := by decide +kernel
theorem dX5_sight_31 : decode cX5_sight 31 = .ok (.aload 4, 2) := by decide +kernel
theorem dX5_sight_33 : decode cX5_sight 33 = .ok (.iload_n 3, 1) := by decide +kernel
theorem dX5_sight_34 : decode cX5_sight 34 = .ok (.invokevirtual 195, 3) := by decide +kernel
theorem dX5_sight_37 : decode cX5_sight 37 = .ok (.ifCond .ne 5, 3) := by decide +kernel
theorem dX5_sight_40 : decode cX5_sight 40 = .ok (.iconst (-1), 1) := by decide +kernel
theorem dX5_sight_41 : decode cX5_sight 41 = .ok (.ireturn, 1) := by decide +kernel
theorem dX5_sight_42 : decode cX5_sight 42 = .ok (.aload_n 0, 1) := by decide +kernel
theorem dX5_sight_43 : decode cX5_sight 43 = .ok (.getfield 47, 3) := by decide +kernel
theorem dX5_sight_46 : decode cX5_sight 46 = .ok (.bipush 60, 2) := by decide +kernel
theorem dX5_sight_48 : decode cX5_sight 48 = .ok (.if_icmp .lt 6, 3) := by decide +kernel
theorem dX5_sight_51 : decode cX5_sight 51 = .ok (.bipush (-2), 2) := by decide +kernel
theorem dX5_sight_53 : decode cX5_sight 53 = .ok (.ireturn, 1) := by decide +kernel
theorem dX5_sight_54 : decode cX5_sight 54 = .ok (.aload 4, 2) := by decide +kernel
theorem dX5_sight_56 : decode cX5_sight 56 = .ok (.getfield 198, 3) := by decide +kernel
theorem dX5_sight_59 : decode cX5_sight 59 = .ok (.new 201, 3) := by decide +kernel
theorem dX5_sight_62 : decode cX5_sight 62 = .ok (.dup, 1) := by decide +kernel
theorem dX5_sight_63 : decode cX5_sight 63 = .ok (.iload_n 2, 1) := by decide +kernel
theorem dX5_sight_64 : decode cX5_sight 64 = .ok (.iload_n 3, 1) := by decide +kernel
theorem dX5_sight_65 : decode cX5_sight 65 = .ok (.invokespecial 203, 3) := by decide +kernel
theorem dX5_sight_68 : decode cX5_sight 68 = .ok (.invokeinterface 118 2, 5) := by decide +kernel
theorem dX5_sight_73 : decode cX5_sight 73 = .ok (.pop, 1) := by decide +kernel
theorem dX5_sight_74 : decode cX5_sight 74 = .ok (.aload_n 0, 1) := by decide +kernel
theorem dX5_sight_75 : decode cX5_sight 75 = .ok (.dup, 1) := by decide +kernel
theorem dX5_sight_76 : decode cX5_sight 76 = .ok (.getfield 47, 3) := by decide +kernel
theorem dX5_sight_79 : decode cX5_sight 79 = .ok (.iconst 1, 1) := by decide +kernel
theorem dX5_sight_80 : decode cX5_sight 80 = .ok (.iadd, 1) := by decide +kernel
theorem dX5_sight_81 : decode cX5_sight 81 = .ok (.putfield 47, 3) := by decide +kernel
theorem dX5_sight_84 : decode cX5_sight 84 = .ok (.aload_n 0, 1) := by decide +kernel
theorem dX5_sight_85 : decode cX5_sight 85 = .ok (.getfield 47, 3) := by decide +kernel
theorem dX5_sight_88 : decode cX5_sight 88 = .ok (.ireturn, 1) := by decide +kernel
set_option maxRecDepth 20000 in
theorem ggX5_distance_X5_shipOf : GoodIn wsX5_distance wsX5_shipOf := goodIn_r _ [6, 7, 8, 9, 10, 11, 12, 13, 14, 15, 16, 17, 18, 19, 20, 21, 22, 23, 24, 25, 26, 27, 28, 29, 30, 31, 74, 75, 76, 77, 78, 79, 80, 81, 82, 83, 84, 85, 86, 87, 88] (by decide +kernel) (by decide +kernel)
set_option maxRecDepth 20000 in
theorem gX5_distance_X5_shipOf : GoodIn wsX5_distance (wsV RX5 122 RX5 yX5_shipOf wsX5_shipOf) := goodIn_app (goodIn_of _ (by decide +kernel)) ggX5_distance_X5_shipOf
set_option maxRecDepth 20000 in
theorem ggX5_distance_X5_outside : GoodIn wsX5_distance wsX5_outside := goodIn_r _ [34] (by decide +kernel) (by decide +kernel)
set_option maxRecDepth 20000 in
theorem gX5_distance_X5_outside : GoodIn wsX5_distance (va_wsS RX5 60 yX5_outside wsX5_outside) := goodIn_app (goodIn_of _ (by decide +kernel)) ggX5_distance_X5_outside
set_option maxRecDepth 20000 in
theorem ggX5_distance_X5_mostDistance : GoodIn wsX5_distance wsX5_mostDistance := goodIn_r _ [38, 39, 40, 41, 42, 43, 44, 45, 46, 47, 48, 49, 50, 51, 52, 53, 10, 11, 12, 13, 14, 54, 16, 17, 18, 19, 20, 21, 22, 23, 24, 25, 26, 27, 28, 29, 30, 31, 55, 56, 57, 58, 59, 60, 61, 5, 62, 63, 64, 65, 66, 67, 68, 69, 89, 90, 91, 92, 93, 94, 95, 96, 97, 98, 99, 100, 101, 102, 103, 104, 86, 87, 88, 74, 75, 76, 77, 78, 79, 80, 81, 82, 83, 84, 85] (by decide +kernel) (by decide +kernel)
set_option maxRecDepth 20000 in
theorem gX5_distance_X5_mostDistance : GoodIn wsX5_distance (wsV RX5 206 RX5 yX5_mostDistance wsX5_mostDistance) := goodIn_app (goodIn_of _ (by decide +kernel)) ggX5_distance_X5_mostDistance
set_option maxRecDepth 20000 in
theorem ggX5_distance_X5_leastDistance : GoodIn wsX5_distance wsX5_leastDistance := goodIn_r _ [73, 39, 40, 67, 68, 43, 69, 45, 46, 47, 48, 49, 50, 51, 52, 53, 10, 11, 12, 13, 14, 54, 16, 17, 18, 19, 20, 21, 22, 23, 24, 25, 26, 27, 28, 29, 30, 31, 55, 56, 57, 58, 59, 60, 61, 5, 62, 63, 64, 65, 66, 89, 90, 91, 92, 93, 94, 95, 96, 97, 98, 99, 100, 101, 102, 103, 104, 86, 87, 88, 74, 75, 76, 77, 78, 79, 80, 81, 82, 83, 84, 85] (by decide +kernel) (by decide +kernel)
set_option maxRecDepth 20000 in
theorem gX5_distance_X5_leastDistance : GoodIn wsX5_distance (wsV RX5 210 RX5 yX5_leastDistance wsX5_leastDistance) := goodIn_app (goodIn_of _ (by decide +kernel)) ggX5_distance_X5_leastDistance
theorem dX5_distance_0 : decode cX5_distance 0 = .ok (.aload_n 0, 1) := by decide +kernel
theorem dX5_distance_1 : decode cX5_distance 1 = .ok (.iload_n 1, 1) := by decide +kernel
theorem dX5_distance_2 : decode cX5_distance 2 = .ok (.invokevirtual 122, 3) := by decide +kernel
theorem dX5_distance_5 : decode cX5_distance 5 = .ok (.astore 4, 2) := by decide +kernel
theorem dX5_distance_7 : decode cX5_distance 7 = .ok (.aload 4, 2) := by decide +kernel
theorem dX5_distance_9 : decode cX5_distance 9 = .ok (.ifnull 12, 3) := by decide +kernel
theorem dX5_distance_12 : decode cX5_distance 12 = .ok (.iload_n 2, 1) := by decide +kernel
theorem dX5_distance_13 : decode cX5_distance 13 = .ok (.ldc 171, 2) := by decide +kernel
theorem dX5_distance_15 : decode cX5_distance 15 = .ok (.invokestatic 60, 3) := by decide +kernel
theorem dX5_distance_18 : decode cX5_distance 18 = .ok (.ifCond .eq 5, 3) := by decide +kernel
theorem dX5_distance_21 : decode cX5_distance 21 = .ok (.iconst (-1), 1) := by decide +kernel
theorem dX5_distance_22 : decode cX5_distance 22 = .ok (.ireturn, 1) := by decide +kernel
theorem dX5_distance_23 : decode cX5_distance 23 = .ok (.iload_n 3, 1) := by decide +kernel
theorem dX5_distance_24 : decode cX5_distance 24 = .ok (.ifCond .eq 13, 3) := by decide +kernel
theorem dX5_distance_27 : decode cX5_distance 27 = .ok (.aload_n 0, 1) := by decide +kernel
theorem dX5_distance_28 : decode cX5_distance 28 = .ok (.aload 4, 2) := by decide +kernel
theorem dX5_distance_30 : decode cX5_distance 30 = .ok (.iload_n 2, 1) := by decide +kernel
theorem dX5_distance_31 : decode cX5_distance 31 = .ok (.invokevirtual 206, 3) := by decide +kernel
theorem dX5_distance_34 : decode cX5_distance 34 = .ok (.goto 10, 3) := by decide +kernel
theorem dX5_distance_37 : decode cX5_distance 37 = .ok (.aload_n 0, 1) := by decide +kernel
theorem dX5_distance_38 : decode cX5_distance 38 = .ok (.aload 4, 2) := by decide +kernel
theorem dX5_distance_40 : decode cX5_distance 40 = .ok (.iload_n 2, 1) := by decide +kernel
theorem dX5_distance_41 : decode cX5_distance 41 = .ok (.invokevirtual 210, 3) := by decide +kernel
theorem dX5_distance_44 : decode cX5_distance 44 = .ok (.ireturn, 1) := by decide +kernel
set_option maxRecDepth 20000 in
theorem ggX5_ahead_X5_shipOf : GoodIn wsX5_ahead wsX5_shipOf := goodIn_r _ [6, 7, 8, 9, 10, 11, 12, 13, 14, 15, 16, 17, 18, 19, 20, 21, 22, 23, 24, 25, 26, 27, 28, 29, 30, 31, 80, 81, 82, 83, 84, 85, 86, 87, 88, 89, 90, 91, 92, 93, 94] (by decide +kernel) (by decide +kernel)
set_option maxRecDepth 20000 in
theorem gX5_ahead_X5_shipOf : GoodIn wsX5_ahead (wsV RX5 122 RX5 yX5_shipOf wsX5_shipOf) := goodIn_app (goodIn_of _ (by decide +kernel)) ggX5_ahead_X5_shipOf
set_option maxRecDepth 20000 in
theorem ggX5_ahead_X5_outside : GoodIn wsX5_ahead wsX5_outside := goodIn_r _ [34] (by decide +kernel) (by decide +kernel)
set_option maxRecDepth 20000 in
theorem gX5_ahead_X5_outside : GoodIn wsX5_ahead (va_wsS RX5 60 yX5_outside wsX5_outside) := goodIn_app (goodIn_of _ (by decide +kernel)) ggX5_ahead_X5_outside
set_option maxRecDepth 20000 in
theorem ggX5_ahead_X3_isSeenAround : GoodIn wsX5_ahead wsX3_isSeenAround := goodIn_r _ [39, 40, 41, 42, 38, 43, 44, 45, 46, 47, 10, 11, 12, 13, 14, 48, 16, 17, 18, 19, 20, 21, 22, 23, 24, 25, 26, 27, 28, 29, 30, 31, 49, 50, 51, 52, 95, 96, 97, 98, 99, 100, 101, 102, 103, 104, 105, 106, 107, 108, 109, 110, 92, 93, 94] (by decide +kernel) (by decide +kernel)
set_option maxRecDepth 20000 in
theorem gX5_ahead_X3_isSeenAround : GoodIn wsX5_ahead (wsV RX5 213 RX3 yX3_isSeenAround wsX3_isSeenAround) := goodIn_app (goodIn_of _ (by decide +kernel)) ggX5_ahead_X3_isSeenAround
set_option maxRecDepth 20000 in
theorem ggX5_ahead_X5_mostDistance : GoodIn wsX5_ahead wsX5_mostDistance := goodIn_r _ [56, 57, 58, 59, 60, 61, 62, 63, 41, 42, 38, 43, 44, 45, 46, 47, 10, 11, 12, 13, 14, 48, 16, 17, 18, 19, 20, 21, 22, 23, 24, 25, 26, 27, 28, 29, 30, 31, 64, 50, 51, 52, 65, 66, 67, 5, 68, 69, 70, 71, 72, 73, 74, 75, 109, 110, 95, 96, 97, 98, 99, 100, 101, 102, 103, 104, 105, 106, 107, 108, 92, 93, 94, 80, 81, 82, 83, 84, 85, 86, 87, 88, 89, 90, 91] (by decide +kernel) (by decide +kernel)
set_option maxRecDepth 20000 in
theorem gX5_ahead_X5_mostDistance : GoodIn wsX5_ahead (wsV RX5 206 RX5 yX5_mostDistance wsX5_mostDistance) := goodIn_app (goodIn_of _ (by decide +kernel)) ggX5_ahead_X5_mostDistance
set_option maxRecDepth 20000 in
theorem ggX5_ahead_X5_leastDistance : GoodIn wsX5_ahead wsX5_leastDistance := goodIn_r _ [79, 57, 58, 73, 74, 61, 75, 63, 41, 42, 38, 43, 44, 45, 46, 47, 10, 11, 12, 13, 14, 48, 16, 17, 18, 19, 20, 21, 22, 23, 24, 25, 26, 27, 28, 29, 30, 31, 64, 50, 51, 52, 65, 66, 67, 5, 68, 69, 70, 71, 72, 109, 110, 95, 96, 97, 98, 99, 100, 101, 102, 103, 104, 105, 106, 107, 108, 92, 93, 94, 80, 81, 82, 83, 84, 85, 86, 87, 88, 89, 90, 91] (by decide +kernel) (by decide +kernel)
set_option maxRecDepth 20000 in
theorem gX5_ahead_X5_leastDistance : GoodIn wsX5_ahead (wsV RX5 210 RX5 yX5_leastDistance wsX5_leastDistance) := goodIn_app (goodIn_of _ (by decide +kernel)) ggX5_ahead_X5_leastDistance
theorem dX5_ahead_0 : decode cX5_ahead 0 = .ok (.aload_n 0, 1) := by decide +kernel
theorem dX5_ahead_1 : decode cX5_ahead 1 = .ok (.iload_n 1, 1) := by decide +kernel
theorem dX5_ahead_2 : decode cX5_ahead 2 = .ok (.invokevirtual 122, 3) := by decide +kernel
theorem dX5_ahead_5 : decode cX5_ahead 5 = .ok (.astore 4, 2) := by decide +kernel
theorem dX5_ahead_7 : decode cX5_ahead 7 = .ok (.aload_n 0, 1) := by decide +kernel
theorem dX5_ahead_8 : decode cX5_ahead 8 = .ok (.iload_n 2, 1) := by decide +kernel
theorem dX5_ahead_9 : decode cX5_ahead 9 = .ok (.invokevirtual 122, 3) := by decide +kernel
theorem dX5_ahead_12 : decode cX5_ahead 12 = .ok (.astore 5, 2) := by decide +kernel
theorem dX5_ahead_14 : decode cX5_ahead 14 = .ok (.aload 4, 2) := by decide +kernel
theorem dX5_ahead_16 : decode cX5_ahead 16 = .ok (.ifnull 22, 3) := by decide +kernel
theorem dX5_ahead_19 : decode cX5_ahead 19 = .ok (.aload 5, 2) := by decide +kernel
theorem dX5_ahead_21 : decode cX5_ahead 21 = .ok (.ifnull 17, 3) := by decide +kernel
theorem dX5_ahead_24 : decode cX5_ahead 24 = .ok (.iload_n 1, 1) := by decide +kernel
theorem dX5_ahead_25 : decode cX5_ahead 25 = .ok (.iload_n 2, 1) := by decide +kernel
theorem dX5_ahead_26 : decode cX5_ahead 26 = .ok (.if_icmp .eq 12, 3) := by decide +kernel
theorem dX5_ahead_29 : decode cX5_ahead 29 = .ok (.iload_n 3, 1) := by decide +kernel
theorem dX5_ahead_30 : decode cX5_ahead 30 = .ok (.ldc 171, 2) := by decide +kernel
theorem dX5_ahead_32 : decode cX5_ahead 32 = .ok (.invokestatic 60, 3) := by decide +kernel
theorem dX5_ahead_35 : decode cX5_ahead 35 = .ok (.ifCond .eq 5, 3) := by decide +kernel
theorem dX5_ahead_38 : decode cX5_ahead 38 = .ok (.iconst (-1), 1) := by decide +kernel
theorem dX5_ahead_39 : decode cX5_ahead 39 = .ok (.ireturn, 1) := by decide +kernel
theorem dX5_ahead_40 : decode cX5_ahead 40 = .ok (.aload 4, 2) := by decide +kernel
theorem dX5_ahead_42 : decode cX5_ahead 42 = .ok (.iload_n 3, 1) := by decide +kernel
theorem dX5_ahead_43 : decode cX5_ahead 43 = .ok (.invokevirtual 213, 3) := by decide +kernel
theorem dX5_ahead_46 : decode cX5_ahead 46 = .ok (.ifCond .eq 12, 3) := by decide +kernel
theorem dX5_ahead_49 : decode cX5_ahead 49 = .ok (.aload 5, 2) := by decide +kernel
theorem dX5_ahead_51 : decode cX5_ahead 51 = .ok (.iload_n 3, 1) := by decide +kernel
theorem dX5_ahead_52 : decode cX5_ahead 52 = .ok (.invokevirtual 213, 3) := by decide +kernel
theorem dX5_ahead_55 : decode cX5_ahead 55 = .ok (.ifCond .ne 6, 3) := by decide +kernel
theorem dX5_ahead_58 : decode cX5_ahead 58 = .ok (.bipush (-9), 2) := by decide +kernel
theorem dX5_ahead_60 : decode cX5_ahead 60 = .ok (.ireturn, 1) := by decide +kernel
theorem dX5_ahead_61 : decode cX5_ahead 61 = .ok (.aload_n 0, 1) := by decide +kernel
theorem dX5_ahead_62 : decode cX5_ahead 62 = .ok (.aload 4, 2) := by decide +kernel
theorem dX5_ahead_64 : decode cX5_ahead 64 = .ok (.iload_n 3, 1) := by decide +kernel
theorem dX5_ahead_65 : decode cX5_ahead 65 = .ok (.invokevirtual 206, 3) := by decide +kernel
theorem dX5_ahead_68 : decode cX5_ahead 68 = .ok (.aload_n 0, 1) := by decide +kernel
theorem dX5_ahead_69 : decode cX5_ahead 69 = .ok (.aload 5, 2) := by decide +kernel
theorem dX5_ahead_71 : decode cX5_ahead 71 = .ok (.iload_n 3, 1) := by decide +kernel
theorem dX5_ahead_72 : decode cX5_ahead 72 = .ok (.invokevirtual 210, 3) := by decide +kernel
theorem dX5_ahead_75 : decode cX5_ahead 75 = .ok (.if_icmp .ge 5, 3) := by decide +kernel
theorem dX5_ahead_78 : decode cX5_ahead 78 = .ok (.iconst 0, 1) := by decide +kernel
theorem dX5_ahead_79 : decode cX5_ahead 79 = .ok (.ireturn, 1) := by decide +kernel
theorem dX5_ahead_80 : decode cX5_ahead 80 = .ok (.aload_n 0, 1) := by decide +kernel
theorem dX5_ahead_81 : decode cX5_ahead 81 = .ok (.aload 5, 2) := by decide +kernel
theorem dX5_ahead_83 : decode cX5_ahead 83 = .ok (.iload_n 3, 1) := by decide +kernel
theorem dX5_ahead_84 : decode cX5_ahead 84 = .ok (.invokevirtual 206, 3) := by decide +kernel
theorem dX5_ahead_87 : decode cX5_ahead 87 = .ok (.aload_n 0, 1) := by decide +kernel
theorem dX5_ahead_88 : decode cX5_ahead 88 = .ok (.aload 4, 2) := by decide +kernel
theorem dX5_ahead_90 : decode cX5_ahead 90 = .ok (.iload_n 3, 1) := by decide +kernel
theorem dX5_ahead_91 : decode cX5_ahead 91 = .ok (.invokevirtual 210, 3) := by decide +kernel
theorem dX5_ahead_94 : decode cX5_ahead 94 = .ok (.if_icmp .ge 7, 3) := by decide +kernel
theorem dX5_ahead_97 : decode cX5_ahead 97 = .ok (.iconst 1, 1) := by decide +kernel
theorem dX5_ahead_98 : decode cX5_ahead 98 = .ok (.goto 4, 3) := by decide +kernel
theorem dX5_ahead_101 : decode cX5_ahead 101 = .ok (.iconst 2, 1) := by decide +kernel
theorem dX5_ahead_102 : decode cX5_ahead 102 = .ok (.ireturn, 1) := by decide +kernel
set_option maxRecDepth 20000 in
theorem ggX5_charter_X5_shipOf : GoodIn wsX5_charter wsX5_shipOf := goodIn_r _ [8, 9, 10, 11, 12, 13, 14, 15, 16, 17, 18, 19, 20, 21, 22, 23, 24, 25, 26, 27, 28, 29, 30, 31, 32, 33, 51, 52, 53, 54, 55, 56, 57, 58, 59, 60, 61, 62, 63, 64, 65] (by decide +kernel) (by decide +kernel)
set_option maxRecDepth 20000 in
theorem gX5_charter_X5_shipOf : GoodIn wsX5_charter (wsV RX5 122 RX5 yX5_shipOf wsX5_shipOf) := goodIn_app (goodIn_of _ (by decide +kernel)) ggX5_charter_X5_shipOf
set_option maxRecDepth 20000 in
theorem ggX5_charter_X5_outside : GoodIn wsX5_charter wsX5_outside := goodIn_r _ [36] (by decide +kernel) (by decide +kernel)
set_option maxRecDepth 20000 in
theorem gX5_charter_X5_outside : GoodIn wsX5_charter (va_wsS RX5 60 yX5_outside wsX5_outside) := goodIn_app (goodIn_of _ (by decide +kernel)) ggX5_charter_X5_outside
theorem dX5_charter_0 : decode cX5_charter 0 = .ok (.aload_n 0, 1) := by decide +kernel
theorem dX5_charter_1 : decode cX5_charter 1 = .ok (.iload_n 1, 1) := by decide +kernel
theorem dX5_charter_2 : decode cX5_charter 2 = .ok (.invokevirtual 122, 3) := by decide +kernel
theorem dX5_charter_5 : decode cX5_charter 5 = .ok (.astore 4, 2) := by decide +kernel
theorem dX5_charter_7 : decode cX5_charter 7 = .ok (.aload 4, 2) := by decide +kernel
theorem dX5_charter_9 : decode cX5_charter 9 = .ok (.ifnull 22, 3) := by decide +kernel
theorem dX5_charter_12 : decode cX5_charter 12 = .ok (.iload_n 2, 1) := by decide +kernel
theorem dX5_charter_13 : decode cX5_charter 13 = .ok (.sipush 1000, 3) := by decide +kernel
theorem dX5_charter_16 : decode cX5_charter 16 = .ok (.invokestatic 60, 3) := by decide +kernel
theorem dX5_charter_19 : decode cX5_charter 19 = .ok (.ifCond .ne 12, 3) := by decide +kernel
theorem dX5_charter_22 : decode cX5_charter 22 = .ok (.iload_n 3, 1) := by decide +kernel
theorem dX5_charter_23 : decode cX5_charter 23 = .ok (.ldc 171, 2) := by decide +kernel
theorem dX5_charter_25 : decode cX5_charter 25 = .ok (.invokestatic 60, 3) := by decide +kernel
theorem dX5_charter_28 : decode cX5_charter 28 = .ok (.ifCond .eq 5, 3) := by decide +kernel
theorem dX5_charter_31 : decode cX5_charter 31 = .ok (.iconst (-1), 1) := by decide +kernel
theorem dX5_charter_32 : decode cX5_charter 32 = .ok (.ireturn, 1) := by decide +kernel
theorem dX5_charter_33 : decode cX5_charter 33 = .ok (.aload 4, 2) := by decide +kernel
theorem dX5_charter_35 : decode cX5_charter 35 = .ok (.iload_n 2, 1) := by decide +kernel
theorem dX5_charter_36 : decode cX5_charter 36 = .ok (.putfield 216, 3) := by decide +kernel
theorem dX5_charter_39 : decode cX5_charter 39 = .ok (.aload 4, 2) := by decide +kernel
theorem dX5_charter_41 : decode cX5_charter 41 = .ok (.iload_n 3, 1) := by decide +kernel
theorem dX5_charter_42 : decode cX5_charter 42 = .ok (.putfield 219, 3) := by decide +kernel
theorem dX5_charter_45 : decode cX5_charter 45 = .ok (.iconst 1, 1) := by decide +kernel
theorem dX5_charter_46 : decode cX5_charter 46 = .ok (.ireturn, 1) := by decide +kernel
set_option maxRecDepth 20000 in
theorem ggX5_freight_X5_shipOf : GoodIn wsX5_freight wsX5_shipOf := goodIn_r _ [8, 9, 10, 11, 12, 13, 14, 15, 16, 17, 18, 19, 20, 21, 22, 23, 24, 25, 26, 27, 28, 29, 30, 31, 32, 33, 64, 65, 66, 67, 68, 69, 70, 71, 72, 73, 74, 75, 76, 77, 78] (by decide +kernel) (by decide +kernel)
set_option maxRecDepth 20000 in
theorem gX5_freight_X5_shipOf : GoodIn wsX5_freight (wsV RX5 122 RX5 yX5_shipOf wsX5_shipOf) := goodIn_app (goodIn_of _ (by decide +kernel)) ggX5_freight_X5_shipOf
set_option maxRecDepth 20000 in
theorem ggX5_freight_X3_isHome : GoodIn wsX5_freight wsX3_isHome := goodIn_r _ [38, 39, 50, 51, 52, 53, 54, 55, 56, 57, 58, 59, 60, 61, 62, 63] (by decide +kernel) (by decide +kernel)
set_option maxRecDepth 20000 in
theorem gX5_freight_X3_isHome : GoodIn wsX5_freight (wsV RX5 222 RX3 yX3_isHome wsX3_isHome) := goodIn_app (goodIn_of _ (by decide +kernel)) ggX5_freight_X3_isHome
set_option maxRecDepth 20000 in
theorem ggX5_freight_X5_theFirst : GoodIn wsX5_freight wsX5_theFirst := goodIn_r _ [43, 9, 10, 11, 12, 13, 14, 15, 16, 17, 18, 19, 20, 21, 22, 23, 24, 25, 26, 27, 28, 29, 30, 31, 32, 33, 34, 35, 36, 37, 38, 39, 44, 45, 46, 47, 48, 49, 64, 65, 66, 67, 68, 69, 70, 71, 72, 73, 74, 75, 76, 77, 78, 50, 51, 52, 53, 54, 55, 56, 57, 58, 59, 60, 61, 62, 63] (by decide +kernel) (by decide +kernel)
set_option maxRecDepth 20000 in
theorem gX5_freight_X5_theFirst : GoodIn wsX5_freight (wsV RX5 183 RX5 yX5_theFirst wsX5_theFirst) := goodIn_app (goodIn_of _ (by decide +kernel)) ggX5_freight_X5_theFirst
theorem dX5_freight_0 : decode cX5_freight 0 = .ok (.aload_n 0, 1) := by decide +kernel
theorem dX5_freight_1 : decode cX5_freight 1 = .ok (.iload_n 1, 1) := by decide +kernel
theorem dX5_freight_2 : decode cX5_freight 2 = .ok (.invokevirtual 122, 3) := by decide +kernel
theorem dX5_freight_5 : decode cX5_freight 5 = .ok (.astore_n 2, 1) := by decide +kernel
theorem dX5_freight_6 : decode cX5_freight 6 = .ok (.aload_n 2, 1) := by decide +kernel
theorem dX5_freight_7 : decode cX5_freight 7 = .ok (.ifnonnull 5, 3) := by decide +kernel
theorem dX5_freight_10 : decode cX5_freight 10 = .ok (.iconst (-1), 1) := by decide +kernel
theorem dX5_freight_11 : decode cX5_freight 11 = .ok (.ireturn, 1) := by decide +kernel
theorem dX5_freight_12 : decode cX5_freight 12 = .ok (.aload_n 2, 1) := by decide +kernel
theorem dX5_freight_13 : decode cX5_freight 13 = .ok (.invokevirtual 222, 3) := by decide +kernel
theorem dX5_freight_16 : decode cX5_freight 16 = .ok (.ifCond .ne 6, 3) := by decide +kernel
theorem dX5_freight_19 : decode cX5_freight 19 = .ok (.bipush (-4), 2) := by decide +kernel
theorem dX5_freight_21 : decode cX5_freight 21 = .ok (.ireturn, 1) := by decide +kernel
theorem dX5_freight_22 : decode cX5_freight 22 = .ok (.aload_n 2, 1) := by decide +kernel
theorem dX5_freight_23 : decode cX5_freight 23 = .ok (.aload_n 0, 1) := by decide +kernel
theorem dX5_freight_24 : decode cX5_freight 24 = .ok (.invokevirtual 183, 3) := by decide +kernel
theorem dX5_freight_27 : decode cX5_freight 27 = .ok (.if_acmp .ne 10, 3) := by decide +kernel
theorem dX5_freight_30 : decode cX5_freight 30 = .ok (.aload_n 2, 1) := by decide +kernel
theorem dX5_freight_31 : decode cX5_freight 31 = .ok (.getfield 219, 3) := by decide +kernel
theorem dX5_freight_34 : decode cX5_freight 34 = .ok (.goto 4, 3) := by decide +kernel
theorem dX5_freight_37 : decode cX5_freight 37 = .ok (.iconst 0, 1) := by decide +kernel
theorem dX5_freight_38 : decode cX5_freight 38 = .ok (.istore_n 3, 1) := by decide +kernel
theorem dX5_freight_39 : decode cX5_freight 39 = .ok (.aload_n 2, 1) := by decide +kernel
theorem dX5_freight_40 : decode cX5_freight 40 = .ok (.getfield 147, 3) := by decide +kernel
theorem dX5_freight_43 : decode cX5_freight 43 = .ok (.aload_n 2, 1) := by decide +kernel
theorem dX5_freight_44 : decode cX5_freight 44 = .ok (.getfield 216, 3) := by decide +kernel
theorem dX5_freight_47 : decode cX5_freight 47 = .ok (.imul, 1) := by decide +kernel
theorem dX5_freight_48 : decode cX5_freight 48 = .ok (.iload_n 3, 1) := by decide +kernel
theorem dX5_freight_49 : decode cX5_freight 49 = .ok (.iadd, 1) := by decide +kernel
theorem dX5_freight_50 : decode cX5_freight 50 = .ok (.ireturn, 1) := by decide +kernel
set_option maxRecDepth 20000 in
theorem ggX5_market_X5_outside : GoodIn wsX5_market wsX5_outside := goodIn_r _ [6] (by decide +kernel) (by decide +kernel)
set_option maxRecDepth 20000 in
theorem gX5_market_X5_outside : GoodIn wsX5_market (va_wsS RX5 60 yX5_outside wsX5_outside) := goodIn_app (goodIn_of _ (by decide +kernel)) ggX5_market_X5_outside
theorem dX5_market_0 : decode cX5_market 0 = .ok (.iload_n 1, 1) := by decide +kernel
theorem dX5_market_1 : decode cX5_market 1 = .ok (.iconst 1, 1) := by decide +kernel
theorem dX5_market_2 : decode cX5_market 2 = .ok (.if_icmp .lt 20, 3) := by decide +kernel
theorem dX5_market_5 : decode cX5_market 5 = .ok (.iload_n 1, 1) := by decide +kernel
theorem dX5_market_6 : decode cX5_market 6 = .ok (.sipush 10000, 3) := by decide +kernel
theorem dX5_market_9 : decode cX5_market 9 = .ok (.if_icmp .gt 13, 3) := by decide +kernel
theorem dX5_market_12 : decode cX5_market 12 = .ok (.iload_n 2, 1) := by decide +kernel
theorem dX5_market_13 : decode cX5_market 13 = .ok (.sipush 1000, 3) := by decide +kernel
theorem dX5_market_16 : decode cX5_market 16 = .ok (.invokestatic 60, 3) := by decide +kernel
theorem dX5_market_19 : decode cX5_market 19 = .ok (.ifCond .eq 5, 3) := by decide +kernel
theorem dX5_market_22 : decode cX5_market 22 = .ok (.iconst (-1), 1) := by decide +kernel
theorem dX5_market_23 : decode cX5_market 23 = .ok (.ireturn, 1) := by decide +kernel
theorem dX5_market_24 : decode cX5_market 24 = .ok (.aload_n 0, 1) := by decide +kernel
theorem dX5_market_25 : decode cX5_market 25 = .ok (.iload_n 1, 1) := by decide +kernel
theorem dX5_market_26 : decode cX5_market 26 = .ok (.putfield 50, 3) := by decide +kernel
theorem dX5_market_29 : decode cX5_market 29 = .ok (.aload_n 0, 1) := by decide +kernel
theorem dX5_market_30 : decode cX5_market 30 = .ok (.iload_n 2, 1) := by decide +kernel
theorem dX5_market_31 : decode cX5_market 31 = .ok (.putfield 53, 3) := by decide +kernel
theorem dX5_market_34 : decode cX5_market 34 = .ok (.iconst 1, 1) := by decide +kernel
theorem dX5_market_35 : decode cX5_market 35 = .ok (.ireturn, 1) := by decide +kernel
set_option maxRecDepth 20000 in
theorem ggX5_sale_X5_shipOf : GoodIn wsX5_sale wsX5_shipOf := goodIn_r _ [6, 7, 8, 9, 10, 11, 12, 13, 14, 15, 16, 17, 18, 19, 20, 21, 22, 23, 24, 25, 26, 27, 28, 29, 30, 31, 59, 60, 61, 62, 63, 64, 65, 66, 67, 68, 69, 70, 71, 72, 73] (by decide +kernel) (by decide +kernel)
set_option maxRecDepth 20000 in
theorem gX5_sale_X5_shipOf : GoodIn wsX5_sale (wsV RX5 122 RX5 yX5_shipOf wsX5_shipOf) := goodIn_app (goodIn_of _ (by decide +kernel)) ggX5_sale_X5_shipOf
set_option maxRecDepth 20000 in
theorem ggX5_sale_X3_isHome : GoodIn wsX5_sale wsX3_isHome := goodIn_r _ [36, 37, 74, 75, 76, 77, 78, 79, 80, 81, 82, 83, 84, 85, 86, 87] (by decide +kernel) (by decide +kernel)
set_option maxRecDepth 20000 in
theorem gX5_sale_X3_isHome : GoodIn wsX5_sale (wsV RX5 222 RX3 yX3_isHome wsX3_isHome) := goodIn_app (goodIn_of _ (by decide +kernel)) ggX5_sale_X3_isHome
set_option maxRecDepth 20000 in
theorem ggX5_sale_X5_takings : GoodIn wsX5_sale wsX5_takings := goodIn_r _ [41, 42, 43, 44, 45, 5, 46, 7, 8, 47, 48, 49, 50, 51, 52, 9, 10, 11, 12, 13, 14, 15, 16, 17, 18, 19, 20, 21, 22, 23, 24, 25, 26, 27, 28, 29, 30, 31, 32, 33, 34, 35, 36, 37, 53, 54, 55, 56, 57, 58, 74, 75, 76, 77, 78, 79, 80, 81, 82, 83, 84, 85, 86, 87, 59, 60, 61, 62, 63, 64, 65, 66, 67, 68, 69, 70, 71, 72, 73] (by decide +kernel) (by decide +kernel)
set_option maxRecDepth 20000 in
theorem gX5_sale_X5_takings : GoodIn wsX5_sale (wsV RX5 226 RX5 yX5_takings wsX5_takings) := goodIn_app (goodIn_of _ (by decide +kernel)) ggX5_sale_X5_takings
set_option maxRecDepth 20000 in
theorem ggX5_sale_X5_priceAtEntry : GoodIn wsX5_sale wsX5_priceAtEntry := goodIn_r _ [46, 7, 8, 42, 47, 48, 49, 50, 51, 52, 9, 10, 11, 12, 13, 14, 15, 16, 17, 18, 19, 20, 21, 22, 23, 24, 25, 26, 27, 28, 29, 30, 31, 32, 33, 34, 35, 36, 37, 53, 54, 55, 56, 57, 58, 59, 60, 61, 62, 63, 64, 65, 66, 67, 68, 69, 70, 74, 75, 76, 77, 78, 79, 80, 81, 82, 83, 84, 85, 86, 87, 71, 72, 73] (by decide +kernel) (by decide +kernel)
set_option maxRecDepth 20000 in
theorem gX5_sale_X5_priceAtEntry : GoodIn wsX5_sale (wsV RX5 230 RX5 yX5_priceAtEntry wsX5_priceAtEntry) := goodIn_app (goodIn_of _ (by decide +kernel)) ggX5_sale_X5_priceAtEntry
theorem dX5_sale_0 : decode cX5_sale 0 = .ok (.aload_n 0, 1) := by decide +kernel
theorem dX5_sale_1 : decode cX5_sale 1 = .ok (.iload_n 1, 1) := by decide +kernel
theorem dX5_sale_2 : decode cX5_sale 2 = .ok (.invokevirtual 122, 3) := by decide +kernel
theorem dX5_sale_5 : decode cX5_sale 5 = .ok (.astore_n 2, 1) := by decide +kernel
theorem dX5_sale_6 : decode cX5_sale 6 = .ok (.aload_n 2, 1) := by decide +kernel
theorem dX5_sale_7 : decode cX5_sale 7 = .ok (.ifnonnull 5, 3) := by decide +kernel
theorem dX5_sale_10 : decode cX5_sale 10 = .ok (.iconst (-1), 1) := by decide +kernel
theorem dX5_sale_11 : decode cX5_sale 11 = .ok (.ireturn, 1) := by decide +kernel
theorem dX5_sale_12 : decode cX5_sale 12 = .ok (.aload_n 2, 1) := by decide +kernel
theorem dX5_sale_13 : decode cX5_sale 13 = .ok (.invokevirtual 222, 3) := by decide +kernel
theorem dX5_sale_16 : decode cX5_sale 16 = .ok (.ifCond .ne 6, 3) := by decide +kernel
theorem dX5_sale_19 : decode cX5_sale 19 = .ok (.bipush (-4), 2) := by decide +kernel
theorem dX5_sale_21 : decode cX5_sale 21 = .ok (.ireturn, 1) := by decide +kernel
theorem dX5_sale_22 : decode cX5_sale 22 = .ok (.aload_n 0, 1) := by decide +kernel
theorem dX5_sale_23 : decode cX5_sale 23 = .ok (.aload_n 0, 1) := by decide +kernel
theorem dX5_sale_24 : decode cX5_sale 24 = .ok (.aload_n 2, 1) := by decide +kernel
theorem dX5_sale_25 : decode cX5_sale 25 = .ok (.invokevirtual 226, 3) := by decide +kernel
theorem dX5_sale_28 : decode cX5_sale 28 = .ok (.putfield 56, 3) := by decide +kernel
theorem dX5_sale_31 : decode cX5_sale 31 = .ok (.aload_n 0, 1) := by decide +kernel
theorem dX5_sale_32 : decode cX5_sale 32 = .ok (.aload_n 2, 1) := by decide +kernel
theorem dX5_sale_33 : decode cX5_sale 33 = .ok (.invokevirtual 230, 3) := by decide +kernel
theorem dX5_sale_36 : decode cX5_sale 36 = .ok (.ireturn, 1) := by decide +kernel
set_option maxRecDepth 20000 in
theorem ggX5_meanPrice_Jx4a65c_size_8abf5 : GoodIn wsX5_meanPrice wsJx4a65c_size_8abf5 := goodIn_r _ [8, 9, 86, 87, 88] (by decide +kernel) (by decide +kernel)
set_option maxRecDepth 20000 in
theorem gX5_meanPrice_Jx4a65c_size_8abf5_f107Jx4a65c : GoodIn wsX5_meanPrice (va_wsF RX5 107 RJx4a65c ⟨"java/util/List", "size", "()I"⟩ yJx4a65c_size_8abf5 wsJx4a65c_size_8abf5) := goodIn_app (goodIn_of _ (by decide +kernel)) ggX5_meanPrice_Jx4a65c_size_8abf5
set_option maxRecDepth 20000 in
theorem ggX5_meanPrice_Jx4a65c_get_915e3 : GoodIn wsX5_meanPrice wsJx4a65c_get_915e3 := goodIn_r _ [13, 9, 14, 15, 16, 17, 18, 19, 20, 21, 22, 23, 24, 7, 25, 26, 86, 87, 88] (by decide +kernel) (by decide +kernel)
set_option maxRecDepth 20000 in
theorem gX5_meanPrice_Jx4a65c_get_915e3_f175Jx4a65c : GoodIn wsX5_meanPrice (va_wsF RX5 175 RJx4a65c ⟨"java/util/List", "get", "(I)Ljava/lang/Object;"⟩ yJx4a65c_get_915e3 wsJx4a65c_get_915e3) := goodIn_app (goodIn_of _ (by decide +kernel)) ggX5_meanPrice_Jx4a65c_get_915e3
set_option maxRecDepth 20000 in
theorem ggX5_meanPrice_X3_isHome : GoodIn wsX5_meanPrice wsX3_isHome := goodIn_r _ [31, 32, 72, 73, 74, 75, 76, 77, 78, 79, 80, 81, 82, 83, 84, 85] (by decide +kernel) (by decide +kernel)
set_option maxRecDepth 20000 in
theorem gX5_meanPrice_X3_isHome : GoodIn wsX5_meanPrice (wsV RX5 222 RX3 yX3_isHome wsX3_isHome) := goodIn_app (goodIn_of _ (by decide +kernel)) ggX5_meanPrice_X3_isHome
set_option maxRecDepth 20000 in
theorem ggX5_meanPrice_X5_takings : GoodIn wsX5_meanPrice wsX5_takings := goodIn_r _ [37, 3, 38, 39, 40, 36, 41, 1, 2, 42, 43, 44, 45, 46, 47, 4, 5, 6, 7, 8, 9, 10, 11, 12, 13, 14, 15, 16, 17, 18, 19, 20, 21, 22, 23, 24, 25, 26, 27, 28, 29, 30, 31, 32, 48, 49, 50, 51, 52, 53, 72, 73, 74, 75, 76, 77, 78, 79, 80, 81, 82, 83, 84, 85, 60, 61, 62, 63, 64, 65, 66, 67, 68, 69, 70, 71, 86, 87, 88] (by decide +kernel) (by decide +kernel)
set_option maxRecDepth 20000 in
theorem gX5_meanPrice_X5_takings : GoodIn wsX5_meanPrice (wsV RX5 226 RX5 yX5_takings wsX5_takings) := goodIn_app (goodIn_of _ (by decide +kernel)) ggX5_meanPrice_X5_takings
set_option maxRecDepth 20000 in
theorem ggX5_meanPrice_X5_found : GoodIn wsX5_meanPrice wsX5_found := goodIn_r _ [57, 58, 59, 60, 61, 62, 63, 64, 65, 66, 67, 68, 69, 70, 71] (by decide +kernel) (by decide +kernel)
set_option maxRecDepth 20000 in
theorem gX5_meanPrice_X5_found : GoodIn wsX5_meanPrice (wsV RX5 79 RX5 yX5_found wsX5_found) := goodIn_app (goodIn_of _ (by decide +kernel)) ggX5_meanPrice_X5_found
theorem dX5_meanPrice_0 : decode cX5_meanPrice 0 = .ok (.lconst 0, 1) := by decide +kernel
theorem dX5_meanPrice_1 : decode cX5_meanPrice 1 = .ok (.lstore_n 1, 1) := by decide +kernel
theorem dX5_meanPrice_2 : decode cX5_meanPrice 2 = .ok (.lconst 0, 1) := by decide +kernel
theorem dX5_meanPrice_3 : decode cX5_meanPrice 3 = .ok (.lstore_n 3, 1) := by decide +kernel
theorem dX5_meanPrice_4 : decode cX5_meanPrice 4 = .ok (.iconst 0, 1) := by decide +kernel
theorem dX5_meanPrice_5 : decode cX5_meanPrice 5 = .ok (.istore 5, 2) := by decide +kernel
theorem dX5_meanPrice_7 : decode cX5_meanPrice 7 = .ok (.iload 5, 2) := by decide +kernel
theorem dX5_meanPrice_9 : decode cX5_meanPrice 9 = .ok (.aload_n 0, 1) := by decide +kernel
theorem dX5_meanPrice_10 : decode cX5_meanPrice 10 = .ok (.getfield 26, 3) := by decide +kernel
theorem dX5_meanPrice_13 : decode cX5_meanPrice 13 = .ok (.invokeinterface 107 1, 5) := by decide +kernel
theorem dX5_meanPrice_18 : decode cX5_meanPrice 18 = .ok (.if_icmp .ge 51, 3) := by decide +kernel
theorem dX5_meanPrice_21 : decode cX5_meanPrice 21 = .ok (.aload_n 0, 1) := by decide +kernel
theorem dX5_meanPrice_22 : decode cX5_meanPrice 22 = .ok (.getfield 26, 3) := by decide +kernel
theorem dX5_meanPrice_25 : decode cX5_meanPrice 25 = .ok (.iload 5, 2) := by decide +kernel
theorem dX5_meanPrice_27 : decode cX5_meanPrice 27 = .ok (.invokeinterface 175 2, 5) := by decide +kernel
theorem dX5_meanPrice_32 : decode cX5_meanPrice 32 = .ok (.checkcast 113, 3) := by decide +kernel
theorem dX5_meanPrice_35 : decode cX5_meanPrice 35 = .ok (.astore 6, 2) := by decide +kernel
theorem dX5_meanPrice_37 : decode cX5_meanPrice 37 = .ok (.aload 6, 2) := by decide +kernel
theorem dX5_meanPrice_39 : decode cX5_meanPrice 39 = .ok (.invokevirtual 222, 3) := by decide +kernel
theorem dX5_meanPrice_42 : decode cX5_meanPrice 42 = .ok (.ifCond .eq 21, 3) := by decide +kernel
theorem dX5_meanPrice_45 : decode cX5_meanPrice 45 = .ok (.lload_n 1, 1) := by decide +kernel
theorem dX5_meanPrice_46 : decode cX5_meanPrice 46 = .ok (.aload_n 0, 1) := by decide +kernel
theorem dX5_meanPrice_47 : decode cX5_meanPrice 47 = .ok (.aload 6, 2) := by decide +kernel
theorem dX5_meanPrice_49 : decode cX5_meanPrice 49 = .ok (.invokevirtual 226, 3) := by decide +kernel
theorem dX5_meanPrice_52 : decode cX5_meanPrice 52 = .ok (.ladd, 1) := by decide +kernel
theorem dX5_meanPrice_53 : decode cX5_meanPrice 53 = .ok (.lstore_n 1, 1) := by decide +kernel
theorem dX5_meanPrice_54 : decode cX5_meanPrice 54 = .ok (.lload_n 3, 1) := by decide +kernel
theorem dX5_meanPrice_55 : decode cX5_meanPrice 55 = .ok (.aload 6, 2) := by decide +kernel
theorem dX5_meanPrice_57 : decode cX5_meanPrice 57 = .ok (.getfield 147, 3) := by decide +kernel
theorem dX5_meanPrice_60 : decode cX5_meanPrice 60 = .ok (.i2l, 1) := by decide +kernel
theorem dX5_meanPrice_61 : decode cX5_meanPrice 61 = .ok (.ladd, 1) := by decide +kernel
theorem dX5_meanPrice_62 : decode cX5_meanPrice 62 = .ok (.lstore_n 3, 1) := by decide +kernel
theorem dX5_meanPrice_63 : decode cX5_meanPrice 63 = .ok (.iinc 5 1, 3) := by decide +kernel
theorem dX5_meanPrice_66 : decode cX5_meanPrice 66 = .ok (.goto (-59), 3) := by decide +kernel
theorem dX5_meanPrice_69 : decode cX5_meanPrice 69 = .ok (.lload_n 3, 1) := by decide +kernel
theorem dX5_meanPrice_70 : decode cX5_meanPrice 70 = .ok (.lconst 0, 1) := by decide +kernel
theorem dX5_meanPrice_71 : decode cX5_meanPrice 71 = .ok (.lcmp, 1) := by decide +kernel
theorem dX5_meanPrice_72 : decode cX5_meanPrice 72 = .ok (.ifCond .ne 9, 3) := by decide +kernel
theorem dX5_meanPrice_75 : decode cX5_meanPrice 75 = .ok (.aload_n 0, 1) := by decide +kernel
theorem dX5_meanPrice_76 : decode cX5_meanPrice 76 = .ok (.iconst 4, 1) := by decide +kernel
theorem dX5_meanPrice_77 : decode cX5_meanPrice 77 = .ok (.invokevirtual 79, 3) := by decide +kernel
theorem dX5_meanPrice_80 : decode cX5_meanPrice 80 = .ok (.ireturn, 1) := by decide +kernel
theorem dX5_meanPrice_81 : decode cX5_meanPrice 81 = .ok (.lload_n 1, 1) := by decide +kernel
theorem dX5_meanPrice_82 : decode cX5_meanPrice 82 = .ok (.lload_n 3, 1) := by decide +kernel
theorem dX5_meanPrice_83 : decode cX5_meanPrice 83 = .ok (.ldiv, 1) := by decide +kernel
theorem dX5_meanPrice_84 : decode cX5_meanPrice 84 = .ok (.l2i, 1) := by decide +kernel
theorem dX5_meanPrice_85 : decode cX5_meanPrice 85 = .ok (.ireturn, 1) := by decide +kernel
theorem dX5_asked_0 : decode cX5_asked 0 = .ok (.aload_n 0, 1) := by decide +kernel
theorem dX5_asked_1 : decode cX5_asked 1 = .ok (.getfield 56, 3) := by decide +kernel
theorem dX5_asked_4 : decode cX5_asked 4 = .ok (.lreturn, 1) := by decide +kernel
set_option maxRecDepth 20000 in
theorem ggX5_count_Jx4a65c_size_8abf5 : GoodIn wsX5_count wsJx4a65c_size_8abf5 := goodIn_r _ [9, 10, 58, 59, 60] (by decide +kernel) (by decide +kernel)
set_option maxRecDepth 20000 in
theorem gX5_count_Jx4a65c_size_8abf5_f107Jx4a65c : GoodIn wsX5_count (va_wsF RX5 107 RJx4a65c ⟨"java/util/List", "size", "()I"⟩ yJx4a65c_size_8abf5 wsJx4a65c_size_8abf5) := goodIn_app (goodIn_of _ (by decide +kernel)) ggX5_count_Jx4a65c_size_8abf5
set_option maxRecDepth 20000 in
theorem ggX5_count_X2_chartsThere : GoodIn wsX5_count wsX2_chartsThere := goodIn_r _ [15, 16, 61, 62, 63] (by decide +kernel) (by decide +kernel)
end
section
set_option maxRecDepth 20000 in
theorem gX5_count_X2_chartsThere : GoodIn wsX5_count (wsV RX5 234 RX2 yX2_chartsThere wsX2_chartsThere) := goodIn_app (goodIn_of _ (by decide +kernel)) ggX5_count_X2_chartsThere
set_option maxRecDepth 20000 in
theorem ggX5_count_X5_shipsHome : GoodIn wsX5_count wsX5_shipsHome := goodIn_r _ [21, 1, 22, 5, 6, 7, 8, 9, 10, 23, 24, 25, 26, 27, 28, 29, 30, 31, 32, 33, 34, 35, 36, 37, 38, 39, 40, 41, 42, 43, 44, 45, 46, 47, 48, 49, 50, 51, 52, 53, 54, 55, 56, 57, 58, 59, 60, 64, 65, 66, 67, 68, 69, 70, 71, 72, 73, 74, 75, 76, 77] (by decide +kernel) (by decide +kernel)
set_option maxRecDepth 20000 in
theorem gX5_count_X5_shipsHome : GoodIn wsX5_count (wsV RX5 172 RX5 yX5_shipsHome wsX5_shipsHome) := goodIn_app (goodIn_of _ (by decide +kernel)) ggX5_count_X5_shipsHome
theorem dX5_count_0 : decode cX5_count 0 = .ok (.iload_n 1, 1) := by decide +kernel
theorem dX5_count_1 : decode cX5_count 1 = .ok (.tableswitch 68 0 4 #[35, 45, 50, 58, 63], 35) := by decide +kernel
theorem dX5_count_36 : decode cX5_count 36 = .ok (.aload_n 0, 1) := by decide +kernel
theorem dX5_count_37 : decode cX5_count 37 = .ok (.getfield 26, 3) := by decide +kernel
theorem dX5_count_40 : decode cX5_count 40 = .ok (.invokeinterface 107 1, 5) := by decide +kernel
theorem dX5_count_45 : decode cX5_count 45 = .ok (.ireturn, 1) := by decide +kernel
theorem dX5_count_46 : decode cX5_count 46 = .ok (.aload_n 0, 1) := by decide +kernel
theorem dX5_count_47 : decode cX5_count 47 = .ok (.getfield 38, 3) := by decide +kernel
theorem dX5_count_50 : decode cX5_count 50 = .ok (.ireturn, 1) := by decide +kernel
theorem dX5_count_51 : decode cX5_count 51 = .ok (.aload_n 0, 1) := by decide +kernel
theorem dX5_count_52 : decode cX5_count 52 = .ok (.getfield 10, 3) := by decide +kernel
theorem dX5_count_55 : decode cX5_count 55 = .ok (.invokevirtual 234, 3) := by decide +kernel
theorem dX5_count_58 : decode cX5_count 58 = .ok (.ireturn, 1) := by decide +kernel
theorem dX5_count_59 : decode cX5_count 59 = .ok (.aload_n 0, 1) := by decide +kernel
theorem dX5_count_60 : decode cX5_count 60 = .ok (.getfield 47, 3) := by decide +kernel
theorem dX5_count_63 : decode cX5_count 63 = .ok (.ireturn, 1) := by decide +kernel
theorem dX5_count_64 : decode cX5_count 64 = .ok (.aload_n 0, 1) := by decide +kernel
theorem dX5_count_65 : decode cX5_count 65 = .ok (.invokevirtual 172, 3) := by decide +kernel
theorem dX5_count_68 : decode cX5_count 68 = .ok (.ireturn, 1) := by decide +kernel
theorem dX5_count_69 : decode cX5_count 69 = .ok (.iconst (-1), 1) := by decide +kernel
theorem dX5_count_70 : decode cX5_count 70 = .ok (.ireturn, 1) := by decide +kernel
theorem dX5_finding_0 : decode cX5_finding 0 = .ok (.aload_n 0, 1) := by decide +kernel
theorem dX5_finding_1 : decode cX5_finding 1 = .ok (.getfield 34, 3) := by decide +kernel
theorem dX5_finding_4 : decode cX5_finding 4 = .ok (.ireturn, 1) := by decide +kernel
theorem dX5_findings_0 : decode cX5_findings 0 = .ok (.iload_n 1, 1) := by decide +kernel
theorem dX5_findings_1 : decode cX5_findings 1 = .ok (.iconst 1, 1) := by decide +kernel
theorem dX5_findings_2 : decode cX5_findings 2 = .ok (.if_icmp .lt 8, 3) := by decide +kernel
theorem dX5_findings_5 : decode cX5_findings 5 = .ok (.iload_n 1, 1) := by decide +kernel
theorem dX5_findings_6 : decode cX5_findings 6 = .ok (.iconst 5, 1) := by decide +kernel
theorem dX5_findings_7 : decode cX5_findings 7 = .ok (.if_icmp .le 5, 3) := by decide +kernel
theorem dX5_findings_10 : decode cX5_findings 10 = .ok (.iconst (-1), 1) := by decide +kernel
theorem dX5_findings_11 : decode cX5_findings 11 = .ok (.ireturn, 1) := by decide +kernel
theorem dX5_findings_12 : decode cX5_findings 12 = .ok (.aload_n 0, 1) := by decide +kernel
theorem dX5_findings_13 : decode cX5_findings 13 = .ok (.getfield 30, 3) := by decide +kernel
theorem dX5_findings_16 : decode cX5_findings 16 = .ok (.iload_n 1, 1) := by decide +kernel
theorem dX5_findings_17 : decode cX5_findings 17 = .ok (.iaload, 1) := by decide +kernel
theorem dX5_findings_18 : decode cX5_findings 18 = .ok (.ireturn, 1) := by decide +kernel
set_option maxRecDepth 20000 in
theorem ggX5_digest_X5_count : GoodIn wsX5_digest wsX5_count := goodIn_r _ [9, 3, 10, 4, 11, 12, 13, 14, 15, 16, 17, 18, 19, 20, 21, 22, 23, 24, 25, 26, 8, 27, 28, 29, 30, 31, 32, 33, 34, 35, 36, 37, 38, 39, 40, 41, 42, 43, 44, 45, 46, 47, 48, 49, 50, 51, 83, 84, 85, 86, 87, 88, 89, 90, 91, 92, 93, 94, 95, 96, 97, 98, 99, 100, 101, 102, 103, 104, 105, 106, 107, 108, 109, 110, 111, 112, 113, 114] (by decide +kernel) (by decide +kernel)
set_option maxRecDepth 20000 in
theorem gX5_digest_X5_count : GoodIn wsX5_digest (wsV RX5 241 RX5 yX5_count wsX5_count) := goodIn_app (goodIn_of _ (by decide +kernel)) ggX5_digest_X5_count
set_option maxRecDepth 20000 in
theorem ggX5_digest_Jx4a65c_size_8abf5 : GoodIn wsX5_digest wsJx4a65c_size_8abf5 := goodIn_r _ [16, 17, 95, 96, 97] (by decide +kernel) (by decide +kernel)
set_option maxRecDepth 20000 in
theorem gX5_digest_Jx4a65c_size_8abf5_f107Jx4a65c : GoodIn wsX5_digest (va_wsF RX5 107 RJx4a65c ⟨"java/util/List", "size", "()I"⟩ yJx4a65c_size_8abf5 wsJx4a65c_size_8abf5) := goodIn_app (goodIn_of _ (by decide +kernel)) ggX5_digest_Jx4a65c_size_8abf5
set_option maxRecDepth 20000 in
theorem ggX5_digest_X5_told : GoodIn wsX5_digest wsX5_told := goodIn_r _ [55, 56, 57, 58, 59, 60, 61, 62, 63, 64, 65, 8, 66, 3, 28, 12, 13, 14, 15, 16, 17, 29, 30, 31, 32, 33, 34, 35, 36, 37, 38, 39, 40, 41, 42, 43, 44, 45, 101, 102, 103, 104, 105, 106, 107, 108, 109, 110, 111, 112, 113, 114, 83, 84, 85, 86, 87, 88, 89, 90, 91, 92, 93, 94, 95, 96, 97] (by decide +kernel) (by decide +kernel)
set_option maxRecDepth 20000 in
theorem gX5_digest_X5_told : GoodIn wsX5_digest (wsV RX5 244 RX5 yX5_told wsX5_told) := goodIn_app (goodIn_of _ (by decide +kernel)) ggX5_digest_X5_told
set_option maxRecDepth 20000 in
theorem ggX5_digest_X2_digestChart : GoodIn wsX5_digest wsX2_digestChart := goodIn_r _ [70, 71, 72, 73, 74, 21, 75, 23, 76, 8, 77, 78, 79, 80, 81, 82, 98, 99, 100] (by decide +kernel) (by decide +kernel)
set_option maxRecDepth 20000 in
theorem gX5_digest_X2_digestChart : GoodIn wsX5_digest (wsV RX5 247 RX2 yX2_digestChart wsX2_digestChart) := goodIn_app (goodIn_of _ (by decide +kernel)) ggX5_digest_X2_digestChart
theorem dX5_digest_0 : decode cX5_digest 0 = .ok (.ldc2_w 237, 3) := by decide +kernel
theorem dX5_digest_3 : decode cX5_digest 3 = .ok (.lstore_n 1, 1) := by decide +kernel
theorem dX5_digest_4 : decode cX5_digest 4 = .ok (.iconst 0, 1) := by decide +kernel
theorem dX5_digest_5 : decode cX5_digest 5 = .ok (.istore_n 3, 1) := by decide +kernel
theorem dX5_digest_6 : decode cX5_digest 6 = .ok (.iload_n 3, 1) := by decide +kernel
theorem dX5_digest_7 : decode cX5_digest 7 = .ok (.iconst 4, 1) := by decide +kernel
theorem dX5_digest_8 : decode cX5_digest 8 = .ok (.if_icmp .gt 22, 3) := by decide +kernel
theorem dX5_digest_11 : decode cX5_digest 11 = .ok (.ldc2_w 239, 3) := by decide +kernel
theorem dX5_digest_14 : decode cX5_digest 14 = .ok (.lload_n 1, 1) := by decide +kernel
theorem dX5_digest_15 : decode cX5_digest 15 = .ok (.lmul, 1) := by decide +kernel
theorem dX5_digest_16 : decode cX5_digest 16 = .ok (.aload_n 0, 1) := by decide +kernel
theorem dX5_digest_17 : decode cX5_digest 17 = .ok (.iload_n 3, 1) := by decide +kernel
theorem dX5_digest_18 : decode cX5_digest 18 = .ok (.invokevirtual 241, 3) := by decide +kernel
theorem dX5_digest_21 : decode cX5_digest 21 = .ok (.i2l, 1) := by decide +kernel
theorem dX5_digest_22 : decode cX5_digest 22 = .ok (.ladd, 1) := by decide +kernel
theorem dX5_digest_23 : decode cX5_digest 23 = .ok (.lstore_n 1, 1) := by decide +kernel
theorem dX5_digest_24 : decode cX5_digest 24 = .ok (.iinc 3 1, 3) := by decide +kernel
theorem dX5_digest_27 : decode cX5_digest 27 = .ok (.goto (-21), 3) := by decide +kernel
theorem dX5_digest_30 : decode cX5_digest 30 = .ok (.iconst 0, 1) := by decide +kernel
theorem dX5_digest_31 : decode cX5_digest 31 = .ok (.istore_n 3, 1) := by decide +kernel
theorem dX5_digest_32 : decode cX5_digest 32 = .ok (.iload_n 3, 1) := by decide +kernel
theorem dX5_digest_33 : decode cX5_digest 33 = .ok (.aload_n 0, 1) := by decide +kernel
theorem dX5_digest_34 : decode cX5_digest 34 = .ok (.getfield 26, 3) := by decide +kernel
theorem dX5_digest_37 : decode cX5_digest 37 = .ok (.invokeinterface 107 1, 5) := by decide +kernel
theorem dX5_digest_42 : decode cX5_digest 42 = .ok (.if_icmp .ge 40, 3) := by decide +kernel
theorem dX5_digest_45 : decode cX5_digest 45 = .ok (.iconst 0, 1) := by decide +kernel
theorem dX5_digest_46 : decode cX5_digest 46 = .ok (.istore 4, 2) := by decide +kernel
theorem dX5_digest_48 : decode cX5_digest 48 = .ok (.iload 4, 2) := by decide +kernel
theorem dX5_digest_50 : decode cX5_digest 50 = .ok (.bipush 6, 2) := by decide +kernel
theorem dX5_digest_52 : decode cX5_digest 52 = .ok (.if_icmp .gt 24, 3) := by decide +kernel
theorem dX5_digest_55 : decode cX5_digest 55 = .ok (.ldc2_w 239, 3) := by decide +kernel
theorem dX5_digest_58 : decode cX5_digest 58 = .ok (.lload_n 1, 1) := by decide +kernel
theorem dX5_digest_59 : decode cX5_digest 59 = .ok (.lmul, 1) := by decide +kernel
theorem dX5_digest_60 : decode cX5_digest 60 = .ok (.aload_n 0, 1) := by decide +kernel
theorem dX5_digest_61 : decode cX5_digest 61 = .ok (.iload_n 3, 1) := by decide +kernel
theorem dX5_digest_62 : decode cX5_digest 62 = .ok (.iload 4, 2) := by decide +kernel
theorem dX5_digest_64 : decode cX5_digest 64 = .ok (.invokevirtual 244, 3) := by decide +kernel
theorem dX5_digest_67 : decode cX5_digest 67 = .ok (.i2l, 1) := by decide +kernel
theorem dX5_digest_68 : decode cX5_digest 68 = .ok (.ladd, 1) := by decide +kernel
theorem dX5_digest_69 : decode cX5_digest 69 = .ok (.lstore_n 1, 1) := by decide +kernel
theorem dX5_digest_70 : decode cX5_digest 70 = .ok (.iinc 4 1, 3) := by decide +kernel
theorem dX5_digest_73 : decode cX5_digest 73 = .ok (.goto (-25), 3) := by decide +kernel
theorem dX5_digest_76 : decode cX5_digest 76 = .ok (.iinc 3 1, 3) := by decide +kernel
theorem dX5_digest_79 : decode cX5_digest 79 = .ok (.goto (-47), 3) := by decide +kernel
theorem dX5_digest_82 : decode cX5_digest 82 = .ok (.iconst 0, 1) := by decide +kernel
theorem dX5_digest_83 : decode cX5_digest 83 = .ok (.istore_n 3, 1) := by decide +kernel
theorem dX5_digest_84 : decode cX5_digest 84 = .ok (.iload_n 3, 1) := by decide +kernel
theorem dX5_digest_85 : decode cX5_digest 85 = .ok (.bipush 12, 2) := by decide +kernel
theorem dX5_digest_87 : decode cX5_digest 87 = .ok (.if_icmp .ge 19, 3) := by decide +kernel
theorem dX5_digest_90 : decode cX5_digest 90 = .ok (.aload_n 0, 1) := by decide +kernel
theorem dX5_digest_91 : decode cX5_digest 91 = .ok (.getfield 10, 3) := by decide +kernel
theorem dX5_digest_94 : decode cX5_digest 94 = .ok (.iload_n 3, 1) := by decide +kernel
theorem dX5_digest_95 : decode cX5_digest 95 = .ok (.lload_n 1, 1) := by decide +kernel
theorem dX5_digest_96 : decode cX5_digest 96 = .ok (.invokevirtual 247, 3) := by decide +kernel
theorem dX5_digest_99 : decode cX5_digest 99 = .ok (.lstore_n 1, 1) := by decide +kernel
theorem dX5_digest_100 : decode cX5_digest 100 = .ok (.iinc 3 1, 3) := by decide +kernel
theorem dX5_digest_103 : decode cX5_digest 103 = .ok (.goto (-19), 3) := by decide +kernel
theorem dX5_digest_106 : decode cX5_digest 106 = .ok (.lload_n 1, 1) := by decide +kernel
theorem dX5_digest_107 : decode cX5_digest 107 = .ok (.lreturn, 1) := by decide +kernel
theorem dX5_outside_0 : decode cX5_outside 0 = .ok (.iload_n 0, 1) := by decide +kernel
theorem dX5_outside_1 : decode cX5_outside 1 = .ok (.ifCond .lt 8, 3) := by decide +kernel
theorem dX5_outside_4 : decode cX5_outside 4 = .ok (.iload_n 0, 1) := by decide +kernel
theorem dX5_outside_5 : decode cX5_outside 5 = .ok (.iload_n 1, 1) := by decide +kernel
theorem dX5_outside_6 : decode cX5_outside 6 = .ok (.if_icmp .le 7, 3) := by decide +kernel
theorem dX5_outside_9 : decode cX5_outside 9 = .ok (.iconst 1, 1) := by decide +kernel
theorem dX5_outside_10 : decode cX5_outside 10 = .ok (.goto 4, 3) := by decide +kernel
theorem dX5_outside_13 : decode cX5_outside 13 = .ok (.iconst 0, 1) := by decide +kernel
theorem dX5_outside_14 : decode cX5_outside 14 = .ok (.ireturn, 1) := by decide +kernel
set_option maxRecDepth 20000 in
theorem ggX5_isNoSpan_X5_outside : GoodIn wsX5_isNoSpan wsX5_outside := goodIn_r _ [4] (by decide +kernel) (by decide +kernel)
set_option maxRecDepth 20000 in
theorem gX5_isNoSpan_X5_outside : GoodIn wsX5_isNoSpan (va_wsS RX5 60 yX5_outside wsX5_outside) := goodIn_app (goodIn_of _ (by decide +kernel)) ggX5_isNoSpan_X5_outside
theorem dX5_isNoSpan_0 : decode cX5_isNoSpan 0 = .ok (.iload_n 0, 1) := by decide +kernel
theorem dX5_isNoSpan_1 : decode cX5_isNoSpan 1 = .ok (.iload_n 2, 1) := by decide +kernel
theorem dX5_isNoSpan_2 : decode cX5_isNoSpan 2 = .ok (.invokestatic 60, 3) := by decide +kernel
theorem dX5_isNoSpan_5 : decode cX5_isNoSpan 5 = .ok (.ifCond .ne 16, 3) := by decide +kernel
theorem dX5_isNoSpan_8 : decode cX5_isNoSpan 8 = .ok (.iload_n 1, 1) := by decide +kernel
theorem dX5_isNoSpan_9 : decode cX5_isNoSpan 9 = .ok (.iload_n 2, 1) := by decide +kernel
theorem dX5_isNoSpan_10 : decode cX5_isNoSpan 10 = .ok (.invokestatic 60, 3) := by decide +kernel
theorem dX5_isNoSpan_13 : decode cX5_isNoSpan 13 = .ok (.ifCond .ne 8, 3) := by decide +kernel
theorem dX5_isNoSpan_16 : decode cX5_isNoSpan 16 = .ok (.iload_n 0, 1) := by decide +kernel
theorem dX5_isNoSpan_17 : decode cX5_isNoSpan 17 = .ok (.iload_n 1, 1) := by decide +kernel
theorem dX5_isNoSpan_18 : decode cX5_isNoSpan 18 = .ok (.if_icmp .le 7, 3) := by decide +kernel
theorem dX5_isNoSpan_21 : decode cX5_isNoSpan 21 = .ok (.iconst 1, 1) := by decide +kernel
theorem dX5_isNoSpan_22 : decode cX5_isNoSpan 22 = .ok (.goto 4, 3) := by decide +kernel
theorem dX5_isNoSpan_25 : decode cX5_isNoSpan 25 = .ok (.iconst 0, 1) := by decide +kernel
theorem dX5_isNoSpan_26 : decode cX5_isNoSpan 26 = .ok (.ireturn, 1) := by decide +kernel
set_option maxRecDepth 20000 in
theorem ggX5_isNoWater_X5_outside : GoodIn wsX5_isNoWater wsX5_outside := goodIn_r _ [5] (by decide +kernel) (by decide +kernel)
set_option maxRecDepth 20000 in
theorem gX5_isNoWater_X5_outside : GoodIn wsX5_isNoWater (va_wsS RX5 60 yX5_outside wsX5_outside) := goodIn_app (goodIn_of _ (by decide +kernel)) ggX5_isNoWater_X5_outside
set_option maxRecDepth 20000 in
theorem ggX5_isNoWater_X2_isLand : GoodIn wsX5_isNoWater wsX2_isLand := goodIn_r _ [10, 11, 3, 4, 5, 24, 25, 26] (by decide +kernel) (by decide +kernel)
set_option maxRecDepth 20000 in
theorem gX5_isNoWater_X2_isLand : GoodIn wsX5_isNoWater (wsV RX5 64 RX2 yX2_isLand wsX2_isLand) := goodIn_app (goodIn_of _ (by decide +kernel)) ggX5_isNoWater_X2_isLand
theorem dX5_isNoWater_0 : decode cX5_isNoWater 0 = .ok (.iload_n 1, 1) := by decide +kernel
theorem dX5_isNoWater_1 : decode cX5_isNoWater 1 = .ok (.sipush 159, 3) := by decide +kernel
theorem dX5_isNoWater_4 : decode cX5_isNoWater 4 = .ok (.invokestatic 60, 3) := by decide +kernel
theorem dX5_isNoWater_7 : decode cX5_isNoWater 7 = .ok (.ifCond .ne 14, 3) := by decide +kernel
theorem dX5_isNoWater_10 : decode cX5_isNoWater 10 = .ok (.aload_n 0, 1) := by decide +kernel
theorem dX5_isNoWater_11 : decode cX5_isNoWater 11 = .ok (.getfield 10, 3) := by decide +kernel
theorem dX5_isNoWater_14 : decode cX5_isNoWater 14 = .ok (.iload_n 1, 1) := by decide +kernel
theorem dX5_isNoWater_15 : decode cX5_isNoWater 15 = .ok (.invokevirtual 64, 3) := by decide +kernel
theorem dX5_isNoWater_18 : decode cX5_isNoWater 18 = .ok (.ifCond .eq 7, 3) := by decide +kernel
theorem dX5_isNoWater_21 : decode cX5_isNoWater 21 = .ok (.iconst 1, 1) := by decide +kernel
theorem dX5_isNoWater_22 : decode cX5_isNoWater 22 = .ok (.goto 4, 3) := by decide +kernel
theorem dX5_isNoWater_25 : decode cX5_isNoWater 25 = .ok (.iconst 0, 1) := by decide +kernel
theorem dX5_isNoWater_26 : decode cX5_isNoWater 26 = .ok (.ireturn, 1) := by decide +kernel
set_option maxRecDepth 20000 in
theorem ggX5_shipOf_Jx4a65c_size_8abf5 : GoodIn wsX5_shipOf wsJx4a65c_size_8abf5 := goodIn_r _ [7, 8, 38, 39, 40] (by decide +kernel) (by decide +kernel)
set_option maxRecDepth 20000 in
theorem gX5_shipOf_Jx4a65c_size_8abf5_f107Jx4a65c : GoodIn wsX5_shipOf (va_wsF RX5 107 RJx4a65c ⟨"java/util/List", "size", "()I"⟩ yJx4a65c_size_8abf5 wsJx4a65c_size_8abf5) := goodIn_app (goodIn_of _ (by decide +kernel)) ggX5_shipOf_Jx4a65c_size_8abf5
set_option maxRecDepth 20000 in
theorem ggX5_shipOf_Jx4a65c_get_915e3 : GoodIn wsX5_shipOf wsJx4a65c_get_915e3 := goodIn_r _ [12, 8, 13, 14, 15, 16, 17, 18, 19, 20, 21, 22, 23, 6, 24, 25, 38, 39, 40] (by decide +kernel) (by decide +kernel)
set_option maxRecDepth 20000 in
theorem gX5_shipOf_Jx4a65c_get_915e3_f175Jx4a65c : GoodIn wsX5_shipOf (va_wsF RX5 175 RJx4a65c ⟨"java/util/List", "get", "(I)Ljava/lang/Object;"⟩ yJx4a65c_get_915e3 wsJx4a65c_get_915e3) := goodIn_app (goodIn_of _ (by decide +kernel)) ggX5_shipOf_Jx4a65c_get_915e3
theorem dX5_shipOf_0 : decode cX5_shipOf 0 = .ok (.iload_n 1, 1) := by decide +kernel
theorem dX5_shipOf_1 : decode cX5_shipOf 1 = .ok (.ifCond .lt 16, 3) := by decide +kernel
theorem dX5_shipOf_4 : decode cX5_shipOf 4 = .ok (.iload_n 1, 1) := by decide +kernel
theorem dX5_shipOf_5 : decode cX5_shipOf 5 = .ok (.aload_n 0, 1) := by decide +kernel
theorem dX5_shipOf_6 : decode cX5_shipOf 6 = .ok (.getfield 26, 3) := by decide +kernel
theorem dX5_shipOf_9 : decode cX5_shipOf 9 = .ok (.invokeinterface 107 1, 5) := by decide +kernel
theorem dX5_shipOf_14 : decode cX5_shipOf 14 = .ok (.if_icmp .lt 7, 3) := by decide +kernel
theorem dX5_shipOf_17 : decode cX5_shipOf 17 = .ok (.aconst_null, 1) := by decide +kernel
theorem dX5_shipOf_18 : decode cX5_shipOf 18 = .ok (.goto 16, 3) := by decide +kernel
theorem dX5_shipOf_21 : decode cX5_shipOf 21 = .ok (.aload_n 0, 1) := by decide +kernel
theorem dX5_shipOf_22 : decode cX5_shipOf 22 = .ok (.getfield 26, 3) := by decide +kernel
theorem dX5_shipOf_25 : decode cX5_shipOf 25 = .ok (.iload_n 1, 1) := by decide +kernel
theorem dX5_shipOf_26 : decode cX5_shipOf 26 = .ok (.invokeinterface 175 2, 5) := by decide +kernel
theorem dX5_shipOf_31 : decode cX5_shipOf 31 = .ok (.checkcast 113, 3) := by decide +kernel
theorem dX5_shipOf_34 : decode cX5_shipOf 34 = .ok (.areturn, 1) := by decide +kernel
theorem dX5_found_0 : decode cX5_found 0 = .ok (.iload_n 1, 1) := by decide +kernel
theorem dX5_found_1 : decode cX5_found 1 = .ok (.iconst 1, 1) := by decide +kernel
theorem dX5_found_2 : decode cX5_found 2 = .ok (.if_icmp .lt 23, 3) := by decide +kernel
theorem dX5_found_5 : decode cX5_found 5 = .ok (.iload_n 1, 1) := by decide +kernel
theorem dX5_found_6 : decode cX5_found 6 = .ok (.iconst 5, 1) := by decide +kernel
theorem dX5_found_7 : decode cX5_found 7 = .ok (.if_icmp .gt 18, 3) := by decide +kernel
theorem dX5_found_10 : decode cX5_found 10 = .ok (.aload_n 0, 1) := by decide +kernel
theorem dX5_found_11 : decode cX5_found 11 = .ok (.iload_n 1, 1) := by decide +kernel
theorem dX5_found_12 : decode cX5_found 12 = .ok (.putfield 34, 3) := by decide +kernel
theorem dX5_found_15 : decode cX5_found 15 = .ok (.aload_n 0, 1) := by decide +kernel
theorem dX5_found_16 : decode cX5_found 16 = .ok (.getfield 30, 3) := by decide +kernel
theorem dX5_found_19 : decode cX5_found 19 = .ok (.iload_n 1, 1) := by decide +kernel
theorem dX5_found_20 : decode cX5_found 20 = .ok (.dup2, 1) := by decide +kernel
theorem dX5_found_21 : decode cX5_found 21 = .ok (.iaload, 1) := by decide +kernel
theorem dX5_found_22 : decode cX5_found 22 = .ok (.iconst 1, 1) := by decide +kernel
theorem dX5_found_23 : decode cX5_found 23 = .ok (.iadd, 1) := by decide +kernel
theorem dX5_found_24 : decode cX5_found 24 = .ok (.iastore, 1) := by decide +kernel
theorem dX5_found_25 : decode cX5_found 25 = .ok (.bipush (-3), 2) := by decide +kernel
theorem dX5_found_27 : decode cX5_found 27 = .ok (.ireturn, 1) := by decide +kernel
theorem dX5_strengthOf_0 : decode cX5_strengthOf 0 = .ok (.iload_n 0, 1) := by decide +kernel
theorem dX5_strengthOf_1 : decode cX5_strengthOf 1 = .ok (.bipush 10, 2) := by decide +kernel
theorem dX5_strengthOf_3 : decode cX5_strengthOf 3 = .ok (.irem, 1) := by decide +kernel
theorem dX5_strengthOf_4 : decode cX5_strengthOf 4 = .ok (.ireturn, 1) := by decide +kernel
theorem dX5_eighthsBetween_0 : decode cX5_eighthsBetween 0 = .ok (.iload_n 0, 1) := by decide +kernel
theorem dX5_eighthsBetween_1 : decode cX5_eighthsBetween 1 = .ok (.iload_n 1, 1) := by decide +kernel
theorem dX5_eighthsBetween_2 : decode cX5_eighthsBetween 2 = .ok (.isub, 1) := by decide +kernel
theorem dX5_eighthsBetween_3 : decode cX5_eighthsBetween 3 = .ok (.invokestatic 251, 3) := by decide +kernel
theorem dX5_eighthsBetween_6 : decode cX5_eighthsBetween 6 = .ok (.istore_n 2, 1) := by decide +kernel
theorem dX5_eighthsBetween_7 : decode cX5_eighthsBetween 7 = .ok (.iload_n 2, 1) := by decide +kernel
theorem dX5_eighthsBetween_8 : decode cX5_eighthsBetween 8 = .ok (.bipush 8, 2) := by decide +kernel
theorem dX5_eighthsBetween_10 : decode cX5_eighthsBetween 10 = .ok (.iload_n 2, 1) := by decide +kernel
theorem dX5_eighthsBetween_11 : decode cX5_eighthsBetween 11 = .ok (.isub, 1) := by decide +kernel
theorem dX5_eighthsBetween_12 : decode cX5_eighthsBetween 12 = .ok (.invokestatic 256, 3) := by decide +kernel
theorem dX5_eighthsBetween_15 : decode cX5_eighthsBetween 15 = .ok (.ireturn, 1) := by decide +kernel
theorem dX5_needOf_0 : decode cX5_needOf 0 = .ok (.iload_n 0, 1) := by decide +kernel
theorem dX5_needOf_1 : decode cX5_needOf 1 = .ok (.iconst 2, 1) := by decide +kernel
theorem dX5_needOf_2 : decode cX5_needOf 2 = .ok (.irem, 1) := by decide +kernel
theorem dX5_needOf_3 : decode cX5_needOf 3 = .ok (.ifCond .ne 8, 3) := by decide +kernel
theorem dX5_needOf_6 : decode cX5_needOf 6 = .ok (.bipush 60, 2) := by decide +kernel
theorem dX5_needOf_8 : decode cX5_needOf 8 = .ok (.goto 5, 3) := by decide +kernel
theorem dX5_needOf_11 : decode cX5_needOf 11 = .ok (.bipush 85, 2) := by decide +kernel
theorem dX5_needOf_13 : decode cX5_needOf 13 = .ok (.ireturn, 1) := by decide +kernel
set_option maxRecDepth 20000 in
theorem ggX5_monthOf_J9_floorMod_7cf53 : GoodIn wsX5_monthOf wsJ9_floorMod_7cf53 := goodIn_r _ [4] (by decide +kernel) (by decide +kernel)
set_option maxRecDepth 20000 in
theorem gX5_monthOf_J9_floorMod_7cf53 : GoodIn wsX5_monthOf (va_wsS RX5 259 yJ9_floorMod_7cf53 wsJ9_floorMod_7cf53) := goodIn_app (goodIn_of _ (by decide +kernel)) ggX5_monthOf_J9_floorMod_7cf53
theorem dX5_monthOf_0 : decode cX5_monthOf 0 = .ok (.iload_n 0, 1) := by decide +kernel
theorem dX5_monthOf_1 : decode cX5_monthOf 1 = .ok (.sipush 720, 3) := by decide +kernel
theorem dX5_monthOf_4 : decode cX5_monthOf 4 = .ok (.idiv, 1) := by decide +kernel
theorem dX5_monthOf_5 : decode cX5_monthOf 5 = .ok (.bipush 12, 2) := by decide +kernel
theorem dX5_monthOf_7 : decode cX5_monthOf 7 = .ok (.invokestatic 259, 3) := by decide +kernel
theorem dX5_monthOf_10 : decode cX5_monthOf 10 = .ok (.ireturn, 1) := by decide +kernel
set_option maxRecDepth 20000 in
theorem ggX5_entryFrom_J9_floorMod_7cf53 : GoodIn wsX5_entryFrom wsJ9_floorMod_7cf53 := goodIn_r _ [5] (by decide +kernel) (by decide +kernel)
set_option maxRecDepth 20000 in
theorem gX5_entryFrom_J9_floorMod_7cf53 : GoodIn wsX5_entryFrom (va_wsS RX5 259 yJ9_floorMod_7cf53 wsJ9_floorMod_7cf53) := goodIn_app (goodIn_of _ (by decide +kernel)) ggX5_entryFrom_J9_floorMod_7cf53
theorem dX5_entryFrom_0 : decode cX5_entryFrom 0 = .ok (.iload_n 1, 1) := by decide +kernel
theorem dX5_entryFrom_1 : decode cX5_entryFrom 1 = .ok (.aload_n 0, 1) := by decide +kernel
theorem dX5_entryFrom_2 : decode cX5_entryFrom 2 = .ok (.getfield 44, 3) := by decide +kernel
theorem dX5_entryFrom_5 : decode cX5_entryFrom 5 = .ok (.isub, 1) := by decide +kernel
theorem dX5_entryFrom_6 : decode cX5_entryFrom 6 = .ok (.bipush 24, 2) := by decide +kernel
theorem dX5_entryFrom_8 : decode cX5_entryFrom 8 = .ok (.invokestatic 259, 3) := by decide +kernel
theorem dX5_entryFrom_11 : decode cX5_entryFrom 11 = .ok (.istore_n 2, 1) := by decide +kernel
theorem dX5_entryFrom_12 : decode cX5_entryFrom 12 = .ok (.iload_n 2, 1) := by decide +kernel
theorem dX5_entryFrom_13 : decode cX5_entryFrom 13 = .ok (.bipush 6, 2) := by decide +kernel
theorem dX5_entryFrom_15 : decode cX5_entryFrom 15 = .ok (.if_icmp .ge 7, 3) := by decide +kernel
theorem dX5_entryFrom_18 : decode cX5_entryFrom 18 = .ok (.iload_n 1, 1) := by decide +kernel
theorem dX5_entryFrom_19 : decode cX5_entryFrom 19 = .ok (.goto 9, 3) := by decide +kernel
theorem dX5_entryFrom_22 : decode cX5_entryFrom 22 = .ok (.iload_n 1, 1) := by decide +kernel
theorem dX5_entryFrom_23 : decode cX5_entryFrom 23 = .ok (.bipush 24, 2) := by decide +kernel
theorem dX5_entryFrom_25 : decode cX5_entryFrom 25 = .ok (.iadd, 1) := by decide +kernel
theorem dX5_entryFrom_26 : decode cX5_entryFrom 26 = .ok (.iload_n 2, 1) := by decide +kernel
theorem dX5_entryFrom_27 : decode cX5_entryFrom 27 = .ok (.isub, 1) := by decide +kernel
theorem dX5_entryFrom_28 : decode cX5_entryFrom 28 = .ok (.ireturn, 1) := by decide +kernel
set_option maxRecDepth 20000 in
theorem ggX5_sail_X3_isHome : GoodIn wsX5_sail wsX3_isHome := goodIn_r _ [10, 11, 140, 141, 142, 143, 144, 145, 146, 147, 148, 149, 150, 151, 152, 153] (by decide +kernel) (by decide +kernel)
set_option maxRecDepth 20000 in
theorem gX5_sail_X3_isHome : GoodIn wsX5_sail (wsV RX5 222 RX3 yX3_isHome wsX3_isHome) := goodIn_app (goodIn_of _ (by decide +kernel)) ggX5_sail_X3_isHome
set_option maxRecDepth 20000 in
theorem ggX5_sail_X5_monthOf : GoodIn wsX5_sail wsX5_monthOf := goodIn_r _ [15, 16, 17, 18, 19] (by decide +kernel) (by decide +kernel)
set_option maxRecDepth 20000 in
theorem gX5_sail_X5_monthOf : GoodIn wsX5_sail (va_wsS RX5 262 yX5_monthOf wsX5_monthOf) := goodIn_app (goodIn_of _ (by decide +kernel)) ggX5_sail_X5_monthOf
set_option maxRecDepth 20000 in
theorem ggX5_sail_X2_windIn : GoodIn wsX5_sail wsX2_windIn := goodIn_r _ [24, 25, 26, 27, 14, 28, 154, 155, 156] (by decide +kernel) (by decide +kernel)
set_option maxRecDepth 20000 in
theorem gX5_sail_X2_windIn : GoodIn wsX5_sail (wsV RX5 98 RX2 yX2_windIn wsX2_windIn) := goodIn_app (goodIn_of _ (by decide +kernel)) ggX5_sail_X2_windIn
set_option maxRecDepth 20000 in
theorem ggX5_sail_X3_askWay : GoodIn wsX5_sail wsX3_askWay := goodIn_r _ [32, 33, 34, 35, 36, 37, 38, 39, 40, 41, 42, 43, 44, 45, 46, 47, 48, 49, 50, 51, 52, 53, 54, 55, 56, 57, 58, 59, 60, 61, 14, 62, 63, 64, 65, 66, 67, 68, 69, 70, 71, 72, 140, 141, 142, 143, 144, 145, 146, 147, 148, 149, 150, 151, 152, 153, 157, 158, 159, 160, 161, 162, 163, 164, 165] (by decide +kernel) (by decide +kernel)
set_option maxRecDepth 20000 in
theorem gX5_sail_X3_askWay : GoodIn wsX5_sail (wsV RX5 265 RX3 yX3_askWay wsX3_askWay) := goodIn_app (goodIn_of _ (by decide +kernel)) ggX5_sail_X3_askWay
set_option maxRecDepth 20000 in
theorem ggX5_sail_X3_speedIn : GoodIn wsX5_sail wsX3_speedIn := goodIn_r _ [76, 77, 78, 79, 80, 81, 82, 83, 14, 84, 85, 86, 87, 88, 89, 90, 61, 62, 91, 92, 93, 9, 94, 95, 96, 97, 98, 140, 141, 142, 143, 144, 145, 146, 147, 148, 149, 150, 151, 152, 153] (by decide +kernel) (by decide +kernel)
set_option maxRecDepth 20000 in
theorem gX5_sail_X3_speedIn : GoodIn wsX5_sail (wsV RX5 156 RX3 yX3_speedIn wsX3_speedIn) := goodIn_app (goodIn_of _ (by decide +kernel)) ggX5_sail_X3_speedIn
set_option maxRecDepth 20000 in
theorem ggX5_sail_X5_needOf : GoodIn wsX5_sail wsX5_needOf := goodIn_r _ [101] (by decide +kernel) (by decide +kernel)
set_option maxRecDepth 20000 in
theorem gX5_sail_X5_needOf : GoodIn wsX5_sail (va_wsS RX5 268 yX5_needOf wsX5_needOf) := goodIn_app (goodIn_of _ (by decide +kernel)) ggX5_sail_X5_needOf
set_option maxRecDepth 20000 in
theorem ggX5_sail_X5_moveOn : GoodIn wsX5_sail wsX5_moveOn := goodIn_r _ [105, 5, 4, 2, 3, 99, 100, 14, 101, 6, 7, 8, 9, 10, 11, 106, 107, 108, 23, 109, 27, 28, 110, 111, 112, 113, 114, 115, 116, 117, 118, 119, 120, 121, 122, 12, 13, 15, 16, 17, 18, 19, 20, 21, 22, 24, 25, 26, 29, 30, 31, 32, 33, 34, 35, 36, 37, 38, 39, 40, 41, 42, 43, 44, 45, 46, 47, 48, 49, 50, 51, 52, 53, 54, 55, 56, 57, 58, 59, 60, 61, 62, 63, 64, 65, 66, 67, 68, 69, 70, 71, 72, 123, 124, 125, 126, 127, 140, 141, 142, 143, 144, 145, 146, 147, 148, 149, 150, 151, 152, 153, 128, 129, 130, 131, 132, 133, 134, 135, 136, 137, 138, 139, 154, 155, 156, 157, 158, 159, 160, 161, 162, 163, 164, 165] (by decide +kernel) (by decide +kernel)
set_option maxRecDepth 20000 in
theorem gX5_sail_X5_moveOn : GoodIn wsX5_sail (wsV RX5 271 RX5 yX5_moveOn wsX5_moveOn) := goodIn_app (goodIn_of _ (by decide +kernel)) ggX5_sail_X5_moveOn
theorem dX5_sail_0 : decode cX5_sail 0 = .ok (.iconst 0, 1) := by decide +kernel
theorem dX5_sail_1 : decode cX5_sail 1 = .ok (.istore_n 3, 1) := by decide +kernel
theorem dX5_sail_2 : decode cX5_sail 2 = .ok (.aload_n 0, 1) := by decide +kernel
theorem dX5_sail_3 : decode cX5_sail 3 = .ok (.getfield 38, 3) := by decide +kernel
theorem dX5_sail_6 : decode cX5_sail 6 = .ok (.istore 4, 2) := by decide +kernel
theorem dX5_sail_8 : decode cX5_sail 8 = .ok (.iload 4, 2) := by decide +kernel
theorem dX5_sail_10 : decode cX5_sail 10 = .ok (.iload_n 2, 1) := by decide +kernel
theorem dX5_sail_11 : decode cX5_sail 11 = .ok (.if_icmp .ge 135, 3) := by decide +kernel
theorem dX5_sail_14 : decode cX5_sail 14 = .ok (.aload_n 1, 1) := by decide +kernel
theorem dX5_sail_15 : decode cX5_sail 15 = .ok (.invokevirtual 222, 3) := by decide +kernel
theorem dX5_sail_18 : decode cX5_sail 18 = .ok (.ifCond .ne 128, 3) := by decide +kernel
theorem dX5_sail_21 : decode cX5_sail 21 = .ok (.iload 4, 2) := by decide +kernel
theorem dX5_sail_23 : decode cX5_sail 23 = .ok (.aload_n 0, 1) := by decide +kernel
theorem dX5_sail_24 : decode cX5_sail 24 = .ok (.getfield 38, 3) := by decide +kernel
theorem dX5_sail_27 : decode cX5_sail 27 = .ok (.if_icmp .eq 12, 3) := by decide +kernel
theorem dX5_sail_30 : decode cX5_sail 30 = .ok (.iload 4, 2) := by decide +kernel
theorem dX5_sail_32 : decode cX5_sail 32 = .ok (.sipush 720, 3) := by decide +kernel
theorem dX5_sail_35 : decode cX5_sail 35 = .ok (.irem, 1) := by decide +kernel
theorem dX5_sail_36 : decode cX5_sail 36 = .ok (.ifCond .ne 48, 3) := by decide +kernel
theorem dX5_sail_39 : decode cX5_sail 39 = .ok (.aload_n 1, 1) := by decide +kernel
theorem dX5_sail_40 : decode cX5_sail 40 = .ok (.aload_n 0, 1) := by decide +kernel
theorem dX5_sail_41 : decode cX5_sail 41 = .ok (.getfield 10, 3) := by decide +kernel
theorem dX5_sail_44 : decode cX5_sail 44 = .ok (.iload 4, 2) := by decide +kernel
theorem dX5_sail_46 : decode cX5_sail 46 = .ok (.invokestatic 262, 3) := by decide +kernel
theorem dX5_sail_49 : decode cX5_sail 49 = .ok (.aload_n 1, 1) := by decide +kernel
theorem dX5_sail_50 : decode cX5_sail 50 = .ok (.getfield 132, 3) := by decide +kernel
theorem dX5_sail_53 : decode cX5_sail 53 = .ok (.invokevirtual 98, 3) := by decide +kernel
theorem dX5_sail_56 : decode cX5_sail 56 = .ok (.invokevirtual 265, 3) := by decide +kernel
theorem dX5_sail_59 : decode cX5_sail 59 = .ok (.aload_n 1, 1) := by decide +kernel
theorem dX5_sail_60 : decode cX5_sail 60 = .ok (.aload_n 1, 1) := by decide +kernel
theorem dX5_sail_61 : decode cX5_sail 61 = .ok (.getfield 138, 3) := by decide +kernel
theorem dX5_sail_64 : decode cX5_sail 64 = .ok (.aload_n 0, 1) := by decide +kernel
theorem dX5_sail_65 : decode cX5_sail 65 = .ok (.getfield 10, 3) := by decide +kernel
theorem dX5_sail_68 : decode cX5_sail 68 = .ok (.iload 4, 2) := by decide +kernel
theorem dX5_sail_70 : decode cX5_sail 70 = .ok (.invokestatic 262, 3) := by decide +kernel
theorem dX5_sail_73 : decode cX5_sail 73 = .ok (.aload_n 1, 1) := by decide +kernel
theorem dX5_sail_74 : decode cX5_sail 74 = .ok (.getfield 132, 3) := by decide +kernel
theorem dX5_sail_77 : decode cX5_sail 77 = .ok (.invokevirtual 98, 3) := by decide +kernel
theorem dX5_sail_80 : decode cX5_sail 80 = .ok (.invokevirtual 156, 3) := by decide +kernel
theorem dX5_sail_83 : decode cX5_sail 83 = .ok (.istore_n 3, 1) := by decide +kernel
theorem dX5_sail_84 : decode cX5_sail 84 = .ok (.aload_n 1, 1) := by decide +kernel
theorem dX5_sail_85 : decode cX5_sail 85 = .ok (.dup, 1) := by decide +kernel
theorem dX5_sail_86 : decode cX5_sail 86 = .ok (.getfield 135, 3) := by decide +kernel
theorem dX5_sail_89 : decode cX5_sail 89 = .ok (.iload_n 3, 1) := by decide +kernel
theorem dX5_sail_90 : decode cX5_sail 90 = .ok (.iadd, 1) := by decide +kernel
theorem dX5_sail_91 : decode cX5_sail 91 = .ok (.putfield 135, 3) := by decide +kernel
theorem dX5_sail_94 : decode cX5_sail 94 = .ok (.aload_n 1, 1) := by decide +kernel
theorem dX5_sail_95 : decode cX5_sail 95 = .ok (.getfield 135, 3) := by decide +kernel
theorem dX5_sail_98 : decode cX5_sail 98 = .ok (.aload_n 1, 1) := by decide +kernel
theorem dX5_sail_99 : decode cX5_sail 99 = .ok (.getfield 138, 3) := by decide +kernel
theorem dX5_sail_102 : decode cX5_sail 102 = .ok (.invokestatic 268, 3) := by decide +kernel
theorem dX5_sail_105 : decode cX5_sail 105 = .ok (.if_icmp .lt 35, 3) := by decide +kernel
theorem dX5_sail_108 : decode cX5_sail 108 = .ok (.aload_n 0, 1) := by decide +kernel
theorem dX5_sail_109 : decode cX5_sail 109 = .ok (.aload_n 1, 1) := by decide +kernel
theorem dX5_sail_110 : decode cX5_sail 110 = .ok (.iload 4, 2) := by decide +kernel
theorem dX5_sail_112 : decode cX5_sail 112 = .ok (.invokevirtual 271, 3) := by decide +kernel
theorem dX5_sail_115 : decode cX5_sail 115 = .ok (.aload_n 1, 1) := by decide +kernel
theorem dX5_sail_116 : decode cX5_sail 116 = .ok (.aload_n 1, 1) := by decide +kernel
theorem dX5_sail_117 : decode cX5_sail 117 = .ok (.getfield 138, 3) := by decide +kernel
theorem dX5_sail_120 : decode cX5_sail 120 = .ok (.aload_n 0, 1) := by decide +kernel
theorem dX5_sail_121 : decode cX5_sail 121 = .ok (.getfield 10, 3) := by decide +kernel
theorem dX5_sail_124 : decode cX5_sail 124 = .ok (.iload 4, 2) := by decide +kernel
theorem dX5_sail_126 : decode cX5_sail 126 = .ok (.invokestatic 262, 3) := by decide +kernel
theorem dX5_sail_129 : decode cX5_sail 129 = .ok (.aload_n 1, 1) := by decide +kernel
theorem dX5_sail_130 : decode cX5_sail 130 = .ok (.getfield 132, 3) := by decide +kernel
theorem dX5_sail_133 : decode cX5_sail 133 = .ok (.invokevirtual 98, 3) := by decide +kernel
theorem dX5_sail_136 : decode cX5_sail 136 = .ok (.invokevirtual 156, 3) := by decide +kernel
theorem dX5_sail_139 : decode cX5_sail 139 = .ok (.istore_n 3, 1) := by decide +kernel
theorem dX5_sail_140 : decode cX5_sail 140 = .ok (.iinc 4 1, 3) := by decide +kernel
theorem dX5_sail_143 : decode cX5_sail 143 = .ok (.goto (-135), 3) := by decide +kernel
theorem dX5_sail_146 : decode cX5_sail 146 = .ok (.return_, 1) := by decide +kernel
set_option maxRecDepth 20000 in
theorem ggX5_moveOn_X5_needOf : GoodIn wsX5_moveOn wsX5_needOf := goodIn_r _ [8] (by decide +kernel) (by decide +kernel)
set_option maxRecDepth 20000 in
theorem gX5_moveOn_X5_needOf : GoodIn wsX5_moveOn (va_wsS RX5 268 yX5_needOf wsX5_needOf) := goodIn_app (goodIn_of _ (by decide +kernel)) ggX5_moveOn_X5_needOf
set_option maxRecDepth 20000 in
theorem ggX5_moveOn_X3_isHome : GoodIn wsX5_moveOn wsX3_isHome := goodIn_r _ [13, 14, 97, 98, 99, 100, 101, 102, 103, 104, 105, 106, 107, 108, 109, 110] (by decide +kernel) (by decide +kernel)
set_option maxRecDepth 20000 in
theorem gX5_moveOn_X3_isHome : GoodIn wsX5_moveOn (wsV RX5 222 RX3 yX3_isHome wsX3_isHome) := goodIn_app (goodIn_of _ (by decide +kernel)) ggX5_moveOn_X3_isHome
set_option maxRecDepth 20000 in
theorem ggX5_moveOn_X2_nextCell : GoodIn wsX5_moveOn wsX2_nextCell := goodIn_r _ [19, 20, 7, 21, 22, 23, 24, 18, 25, 26, 123, 124, 125] (by decide +kernel) (by decide +kernel)
set_option maxRecDepth 20000 in
theorem gX5_moveOn_X2_nextCell : GoodIn wsX5_moveOn (wsV RX5 274 RX2 yX2_nextCell wsX2_nextCell) := goodIn_app (goodIn_of _ (by decide +kernel)) ggX5_moveOn_X2_nextCell
set_option maxRecDepth 20000 in
theorem ggX5_moveOn_X5_comeTo : GoodIn wsX5_moveOn wsX5_comeTo := goodIn_r _ [30, 4, 31, 3, 32, 33, 34, 35, 36, 7, 37, 38, 39, 40, 41, 42, 43, 44, 18, 45, 46, 47, 20, 21, 48, 49, 50, 12, 51, 52, 53, 54, 55, 56, 57, 58, 59, 60, 61, 62, 63, 64, 65, 66, 67, 68, 69, 70, 71, 72, 73, 74, 75, 76, 77, 78, 79, 80, 81, 82, 83, 84, 85, 86, 87, 88, 89, 90, 91, 92, 93, 94, 95, 96, 97, 98, 99, 100, 101, 102, 103, 104, 105, 106, 107, 108, 109, 110, 111, 112, 113, 114, 115, 116, 117, 118, 119, 120, 121, 122, 123, 124, 125, 126, 127, 128, 129, 130, 131, 132, 133, 134] (by decide +kernel) (by decide +kernel)
set_option maxRecDepth 20000 in
theorem gX5_moveOn_X5_comeTo : GoodIn wsX5_moveOn (wsV RX5 277 RX5 yX5_comeTo wsX5_comeTo) := goodIn_app (goodIn_of _ (by decide +kernel)) ggX5_moveOn_X5_comeTo
theorem dX5_moveOn_0 : decode cX5_moveOn 0 = .ok (.iconst 0, 1) := by decide +kernel
theorem dX5_moveOn_1 : decode cX5_moveOn 1 = .ok (.istore_n 3, 1) := by decide +kernel
theorem dX5_moveOn_2 : decode cX5_moveOn 2 = .ok (.iload_n 3, 1) := by decide +kernel
theorem dX5_moveOn_3 : decode cX5_moveOn 3 = .ok (.sipush 1000, 3) := by decide +kernel
theorem dX5_moveOn_6 : decode cX5_moveOn 6 = .ok (.if_icmp .ge 86, 3) := by decide +kernel
theorem dX5_moveOn_9 : decode cX5_moveOn 9 = .ok (.aload_n 1, 1) := by decide +kernel
theorem dX5_moveOn_10 : decode cX5_moveOn 10 = .ok (.getfield 135, 3) := by decide +kernel
theorem dX5_moveOn_13 : decode cX5_moveOn 13 = .ok (.aload_n 1, 1) := by decide +kernel
theorem dX5_moveOn_14 : decode cX5_moveOn 14 = .ok (.getfield 138, 3) := by decide +kernel
theorem dX5_moveOn_17 : decode cX5_moveOn 17 = .ok (.invokestatic 268, 3) := by decide +kernel
theorem dX5_moveOn_20 : decode cX5_moveOn 20 = .ok (.if_icmp .lt 72, 3) := by decide +kernel
theorem dX5_moveOn_23 : decode cX5_moveOn 23 = .ok (.aload_n 1, 1) := by decide +kernel
theorem dX5_moveOn_24 : decode cX5_moveOn 24 = .ok (.invokevirtual 222, 3) := by decide +kernel
theorem dX5_moveOn_27 : decode cX5_moveOn 27 = .ok (.ifCond .ne 65, 3) := by decide +kernel
theorem dX5_moveOn_30 : decode cX5_moveOn 30 = .ok (.aload_n 0, 1) := by decide +kernel
theorem dX5_moveOn_31 : decode cX5_moveOn 31 = .ok (.getfield 10, 3) := by decide +kernel
theorem dX5_moveOn_34 : decode cX5_moveOn 34 = .ok (.aload_n 1, 1) := by decide +kernel
theorem dX5_moveOn_35 : decode cX5_moveOn 35 = .ok (.getfield 132, 3) := by decide +kernel
theorem dX5_moveOn_38 : decode cX5_moveOn 38 = .ok (.aload_n 1, 1) := by decide +kernel
theorem dX5_moveOn_39 : decode cX5_moveOn 39 = .ok (.getfield 138, 3) := by decide +kernel
theorem dX5_moveOn_42 : decode cX5_moveOn 42 = .ok (.invokevirtual 274, 3) := by decide +kernel
theorem dX5_moveOn_45 : decode cX5_moveOn 45 = .ok (.istore 4, 2) := by decide +kernel
theorem dX5_moveOn_47 : decode cX5_moveOn 47 = .ok (.iload 4, 2) := by decide +kernel
theorem dX5_moveOn_49 : decode cX5_moveOn 49 = .ok (.bipush (-9), 2) := by decide +kernel
theorem dX5_moveOn_51 : decode cX5_moveOn 51 = .ok (.if_icmp .ne 11, 3) := by decide +kernel
theorem dX5_moveOn_54 : decode cX5_moveOn 54 = .ok (.aload_n 1, 1) := by decide +kernel
theorem dX5_moveOn_55 : decode cX5_moveOn 55 = .ok (.iconst 0, 1) := by decide +kernel
theorem dX5_moveOn_56 : decode cX5_moveOn 56 = .ok (.putfield 135, 3) := by decide +kernel
theorem dX5_moveOn_59 : decode cX5_moveOn 59 = .ok (.goto 27, 3) := by decide +kernel
theorem dX5_moveOn_62 : decode cX5_moveOn 62 = .ok (.aload_n 1, 1) := by decide +kernel
theorem dX5_moveOn_63 : decode cX5_moveOn 63 = .ok (.dup, 1) := by decide +kernel
theorem dX5_moveOn_64 : decode cX5_moveOn 64 = .ok (.getfield 135, 3) := by decide +kernel
theorem dX5_moveOn_67 : decode cX5_moveOn 67 = .ok (.aload_n 1, 1) := by decide +kernel
theorem dX5_moveOn_68 : decode cX5_moveOn 68 = .ok (.getfield 138, 3) := by decide +kernel
theorem dX5_moveOn_71 : decode cX5_moveOn 71 = .ok (.invokestatic 268, 3) := by decide +kernel
theorem dX5_moveOn_74 : decode cX5_moveOn 74 = .ok (.isub, 1) := by decide +kernel
theorem dX5_moveOn_75 : decode cX5_moveOn 75 = .ok (.putfield 135, 3) := by decide +kernel
theorem dX5_moveOn_78 : decode cX5_moveOn 78 = .ok (.aload_n 0, 1) := by decide +kernel
theorem dX5_moveOn_79 : decode cX5_moveOn 79 = .ok (.aload_n 1, 1) := by decide +kernel
theorem dX5_moveOn_80 : decode cX5_moveOn 80 = .ok (.iload 4, 2) := by decide +kernel
theorem dX5_moveOn_82 : decode cX5_moveOn 82 = .ok (.iload_n 2, 1) := by decide +kernel
theorem dX5_moveOn_83 : decode cX5_moveOn 83 = .ok (.invokevirtual 277, 3) := by decide +kernel
theorem dX5_moveOn_86 : decode cX5_moveOn 86 = .ok (.iinc 3 1, 3) := by decide +kernel
theorem dX5_moveOn_89 : decode cX5_moveOn 89 = .ok (.goto (-87), 3) := by decide +kernel
theorem dX5_moveOn_92 : decode cX5_moveOn 92 = .ok (.return_, 1) := by decide +kernel
set_option maxRecDepth 20000 in
theorem ggX5_comeTo_X5_monthOf : GoodIn wsX5_comeTo wsX5_monthOf := goodIn_r _ [10, 11, 12, 13, 14] (by decide +kernel) (by decide +kernel)
set_option maxRecDepth 20000 in
theorem gX5_comeTo_X5_monthOf : GoodIn wsX5_comeTo (va_wsS RX5 262 yX5_monthOf wsX5_monthOf) := goodIn_app (goodIn_of _ (by decide +kernel)) ggX5_comeTo_X5_monthOf
set_option maxRecDepth 20000 in
theorem ggX5_comeTo_X2_windIn : GoodIn wsX5_comeTo wsX2_windIn := goodIn_r _ [19, 20, 21, 22, 9, 23, 100, 101, 102] (by decide +kernel) (by decide +kernel)
set_option maxRecDepth 20000 in
theorem gX5_comeTo_X2_windIn : GoodIn wsX5_comeTo (wsV RX5 98 RX2 yX2_windIn wsX2_windIn) := goodIn_app (goodIn_of _ (by decide +kernel)) ggX5_comeTo_X2_windIn
set_option maxRecDepth 20000 in
theorem ggX5_comeTo_X3_askWay : GoodIn wsX5_comeTo wsX3_askWay := goodIn_r _ [28, 29, 30, 31, 32, 33, 34, 35, 36, 37, 38, 39, 40, 41, 42, 43, 44, 45, 46, 47, 48, 49, 50, 51, 52, 53, 54, 55, 56, 57, 9, 58, 59, 60, 61, 62, 63, 64, 65, 66, 67, 68, 74, 75, 76, 77, 78, 79, 80, 81, 82, 83, 84, 85, 86, 87, 103, 104, 105, 106, 107, 108, 109, 110, 111] (by decide +kernel) (by decide +kernel)
set_option maxRecDepth 20000 in
theorem gX5_comeTo_X3_askWay : GoodIn wsX5_comeTo (wsV RX5 265 RX3 yX3_askWay wsX3_askWay) := goodIn_app (goodIn_of _ (by decide +kernel)) ggX5_comeTo_X3_askWay
set_option maxRecDepth 20000 in
theorem ggX5_comeTo_X5_entryFrom : GoodIn wsX5_comeTo wsX5_entryFrom := goodIn_r _ [72, 73, 11, 12, 13, 14, 88, 89, 90, 91, 92, 93, 94, 95, 96, 97, 98, 99] (by decide +kernel) (by decide +kernel)
set_option maxRecDepth 20000 in
theorem gX5_comeTo_X5_entryFrom : GoodIn wsX5_comeTo (wsV RX5 281 RX5 yX5_entryFrom wsX5_entryFrom) := goodIn_app (goodIn_of _ (by decide +kernel)) ggX5_comeTo_X5_entryFrom
theorem dX5_comeTo_0 : decode cX5_comeTo 0 = .ok (.aload_n 1, 1) := by decide +kernel
theorem dX5_comeTo_1 : decode cX5_comeTo 1 = .ok (.iload_n 2, 1) := by decide +kernel
theorem dX5_comeTo_2 : decode cX5_comeTo 2 = .ok (.putfield 132, 3) := by decide +kernel
theorem dX5_comeTo_5 : decode cX5_comeTo 5 = .ok (.aload_n 1, 1) := by decide +kernel
theorem dX5_comeTo_6 : decode cX5_comeTo 6 = .ok (.dup, 1) := by decide +kernel
theorem dX5_comeTo_7 : decode cX5_comeTo 7 = .ok (.getfield 159, 3) := by decide +kernel
theorem dX5_comeTo_10 : decode cX5_comeTo 10 = .ok (.iconst 1, 1) := by decide +kernel
theorem dX5_comeTo_11 : decode cX5_comeTo 11 = .ok (.iadd, 1) := by decide +kernel
theorem dX5_comeTo_12 : decode cX5_comeTo 12 = .ok (.putfield 159, 3) := by decide +kernel
theorem dX5_comeTo_15 : decode cX5_comeTo 15 = .ok (.aload_n 1, 1) := by decide +kernel
theorem dX5_comeTo_16 : decode cX5_comeTo 16 = .ok (.aload_n 0, 1) := by decide +kernel
theorem dX5_comeTo_17 : decode cX5_comeTo 17 = .ok (.getfield 10, 3) := by decide +kernel
theorem dX5_comeTo_20 : decode cX5_comeTo 20 = .ok (.iload_n 3, 1) := by decide +kernel
theorem dX5_comeTo_21 : decode cX5_comeTo 21 = .ok (.invokestatic 262, 3) := by decide +kernel
theorem dX5_comeTo_24 : decode cX5_comeTo 24 = .ok (.iload_n 2, 1) := by decide +kernel
theorem dX5_comeTo_25 : decode cX5_comeTo 25 = .ok (.invokevirtual 98, 3) := by decide +kernel
theorem dX5_comeTo_28 : decode cX5_comeTo 28 = .ok (.invokevirtual 265, 3) := by decide +kernel
theorem dX5_comeTo_31 : decode cX5_comeTo 31 = .ok (.iload_n 2, 1) := by decide +kernel
theorem dX5_comeTo_32 : decode cX5_comeTo 32 = .ok (.aload_n 0, 1) := by decide +kernel
theorem dX5_comeTo_33 : decode cX5_comeTo 33 = .ok (.getfield 41, 3) := by decide +kernel
theorem dX5_comeTo_36 : decode cX5_comeTo 36 = .ok (.if_icmp .ne 17, 3) := by decide +kernel
theorem dX5_comeTo_39 : decode cX5_comeTo 39 = .ok (.aload_n 1, 1) := by decide +kernel
theorem dX5_comeTo_40 : decode cX5_comeTo 40 = .ok (.iload_n 3, 1) := by decide +kernel
theorem dX5_comeTo_41 : decode cX5_comeTo 41 = .ok (.putfield 141, 3) := by decide +kernel
theorem dX5_comeTo_44 : decode cX5_comeTo 44 = .ok (.aload_n 1, 1) := by decide +kernel
theorem dX5_comeTo_45 : decode cX5_comeTo 45 = .ok (.aload_n 0, 1) := by decide +kernel
theorem dX5_comeTo_46 : decode cX5_comeTo 46 = .ok (.iload_n 3, 1) := by decide +kernel
theorem dX5_comeTo_47 : decode cX5_comeTo 47 = .ok (.invokevirtual 281, 3) := by decide +kernel
theorem dX5_comeTo_50 : decode cX5_comeTo 50 = .ok (.putfield 144, 3) := by decide +kernel
theorem dX5_comeTo_53 : decode cX5_comeTo 53 = .ok (.return_, 1) := by decide +kernel
set_option maxRecDepth 20000 in
theorem ggX5_shipsHome_Jx4a65c_size_8abf5 : GoodIn wsX5_shipsHome wsJx4a65c_size_8abf5 := goodIn_r _ [7, 8, 44, 45, 46] (by decide +kernel) (by decide +kernel)
set_option maxRecDepth 20000 in
theorem gX5_shipsHome_Jx4a65c_size_8abf5_f107Jx4a65c : GoodIn wsX5_shipsHome (va_wsF RX5 107 RJx4a65c ⟨"java/util/List", "size", "()I"⟩ yJx4a65c_size_8abf5 wsJx4a65c_size_8abf5) := goodIn_app (goodIn_of _ (by decide +kernel)) ggX5_shipsHome_Jx4a65c_size_8abf5
set_option maxRecDepth 20000 in
theorem ggX5_shipsHome_Jx4a65c_get_915e3 : GoodIn wsX5_shipsHome wsJx4a65c_get_915e3 := goodIn_r _ [12, 8, 13, 14, 15, 16, 17, 18, 19, 20, 21, 22, 23, 6, 24, 25, 44, 45, 46] (by decide +kernel) (by decide +kernel)
set_option maxRecDepth 20000 in
theorem gX5_shipsHome_Jx4a65c_get_915e3_f175Jx4a65c : GoodIn wsX5_shipsHome (va_wsF RX5 175 RJx4a65c ⟨"java/util/List", "get", "(I)Ljava/lang/Object;"⟩ yJx4a65c_get_915e3 wsJx4a65c_get_915e3) := goodIn_app (goodIn_of _ (by decide +kernel)) ggX5_shipsHome_Jx4a65c_get_915e3
set_option maxRecDepth 20000 in
theorem ggX5_shipsHome_X3_isHome : GoodIn wsX5_shipsHome wsX3_isHome := goodIn_r _ [30, 31, 47, 48, 49, 50, 51, 52, 53, 54, 55, 56, 57, 58, 59, 60] (by decide +kernel) (by decide +kernel)
set_option maxRecDepth 20000 in
theorem gX5_shipsHome_X3_isHome : GoodIn wsX5_shipsHome (wsV RX5 222 RX3 yX3_isHome wsX3_isHome) := goodIn_app (goodIn_of _ (by decide +kernel)) ggX5_shipsHome_X3_isHome
theorem dX5_shipsHome_0 : decode cX5_shipsHome 0 = .ok (.iconst 0, 1) := by decide +kernel
theorem dX5_shipsHome_1 : decode cX5_shipsHome 1 = .ok (.istore_n 1, 1) := by decide +kernel
theorem dX5_shipsHome_2 : decode cX5_shipsHome 2 = .ok (.iconst 0, 1) := by decide +kernel
theorem dX5_shipsHome_3 : decode cX5_shipsHome 3 = .ok (.istore_n 2, 1) := by decide +kernel
theorem dX5_shipsHome_4 : decode cX5_shipsHome 4 = .ok (.iload_n 2, 1) := by decide +kernel
theorem dX5_shipsHome_5 : decode cX5_shipsHome 5 = .ok (.aload_n 0, 1) := by decide +kernel
theorem dX5_shipsHome_6 : decode cX5_shipsHome 6 = .ok (.getfield 26, 3) := by decide +kernel
theorem dX5_shipsHome_9 : decode cX5_shipsHome 9 = .ok (.invokeinterface 107 1, 5) := by decide +kernel
theorem dX5_shipsHome_14 : decode cX5_shipsHome 14 = .ok (.if_icmp .ge 31, 3) := by decide +kernel
theorem dX5_shipsHome_17 : decode cX5_shipsHome 17 = .ok (.aload_n 0, 1) := by decide +kernel
theorem dX5_shipsHome_18 : decode cX5_shipsHome 18 = .ok (.getfield 26, 3) := by decide +kernel
theorem dX5_shipsHome_21 : decode cX5_shipsHome 21 = .ok (.iload_n 2, 1) := by decide +kernel
theorem dX5_shipsHome_22 : decode cX5_shipsHome 22 = .ok (.invokeinterface 175 2, 5) := by decide +kernel
theorem dX5_shipsHome_27 : decode cX5_shipsHome 27 = .ok (.checkcast 113, 3) := by decide +kernel
theorem dX5_shipsHome_30 : decode cX5_shipsHome 30 = .ok (.invokevirtual 222, 3) := by decide +kernel
theorem dX5_shipsHome_33 : decode cX5_shipsHome 33 = .ok (.ifCond .eq 6, 3) := by decide +kernel
theorem dX5_shipsHome_36 : decode cX5_shipsHome 36 = .ok (.iinc 1 1, 3) := by decide +kernel
theorem dX5_shipsHome_39 : decode cX5_shipsHome 39 = .ok (.iinc 2 1, 3) := by decide +kernel
end
section
theorem dX5_shipsHome_42 : decode cX5_shipsHome 42 = .ok (.goto (-38), 3) := by decide +kernel
theorem dX5_shipsHome_45 : decode cX5_shipsHome 45 = .ok (.iload_n 1, 1) := by decide +kernel
theorem dX5_shipsHome_46 : decode cX5_shipsHome 46 = .ok (.ireturn, 1) := by decide +kernel
set_option maxRecDepth 20000 in
theorem ggX5_theFirst_Jx4a65c_size_8abf5 : GoodIn wsX5_theFirst wsJx4a65c_size_8abf5 := goodIn_r _ [7, 8, 50, 51, 52] (by decide +kernel) (by decide +kernel)
set_option maxRecDepth 20000 in
theorem gX5_theFirst_Jx4a65c_size_8abf5_f107Jx4a65c : GoodIn wsX5_theFirst (va_wsF RX5 107 RJx4a65c ⟨"java/util/List", "size", "()I"⟩ yJx4a65c_size_8abf5 wsJx4a65c_size_8abf5) := goodIn_app (goodIn_of _ (by decide +kernel)) ggX5_theFirst_Jx4a65c_size_8abf5
set_option maxRecDepth 20000 in
theorem ggX5_theFirst_Jx4a65c_get_915e3 : GoodIn wsX5_theFirst wsJx4a65c_get_915e3 := goodIn_r _ [12, 8, 13, 14, 15, 16, 17, 18, 19, 20, 21, 22, 23, 6, 24, 25, 50, 51, 52] (by decide +kernel) (by decide +kernel)
set_option maxRecDepth 20000 in
theorem gX5_theFirst_Jx4a65c_get_915e3_f175Jx4a65c : GoodIn wsX5_theFirst (va_wsF RX5 175 RJx4a65c ⟨"java/util/List", "get", "(I)Ljava/lang/Object;"⟩ yJx4a65c_get_915e3 wsJx4a65c_get_915e3) := goodIn_app (goodIn_of _ (by decide +kernel)) ggX5_theFirst_Jx4a65c_get_915e3
set_option maxRecDepth 20000 in
theorem ggX5_theFirst_X3_isHome : GoodIn wsX5_theFirst wsX3_isHome := goodIn_r _ [30, 31, 53, 54, 55, 56, 57, 58, 59, 60, 61, 62, 63, 64, 65, 66] (by decide +kernel) (by decide +kernel)
set_option maxRecDepth 20000 in
theorem gX5_theFirst_X3_isHome : GoodIn wsX5_theFirst (wsV RX5 222 RX3 yX3_isHome wsX3_isHome) := goodIn_app (goodIn_of _ (by decide +kernel)) ggX5_theFirst_X3_isHome
set_option maxRecDepth 20000 in
theorem ggX5_theFirst_X3_beats : GoodIn wsX5_theFirst wsX3_beats := goodIn_r _ [35, 36, 31, 37, 53, 54, 55, 56, 57, 58, 59, 60, 61, 62, 63, 64, 65, 66] (by decide +kernel) (by decide +kernel)
set_option maxRecDepth 20000 in
theorem gX5_theFirst_X3_beats : GoodIn wsX5_theFirst (wsV RX5 284 RX3 yX3_beats wsX3_beats) := goodIn_app (goodIn_of _ (by decide +kernel)) ggX5_theFirst_X3_beats
theorem dX5_theFirst_0 : decode cX5_theFirst 0 = .ok (.aconst_null, 1) := by decide +kernel
theorem dX5_theFirst_1 : decode cX5_theFirst 1 = .ok (.astore_n 1, 1) := by decide +kernel
theorem dX5_theFirst_2 : decode cX5_theFirst 2 = .ok (.iconst 0, 1) := by decide +kernel
theorem dX5_theFirst_3 : decode cX5_theFirst 3 = .ok (.istore_n 2, 1) := by decide +kernel
theorem dX5_theFirst_4 : decode cX5_theFirst 4 = .ok (.iload_n 2, 1) := by decide +kernel
theorem dX5_theFirst_5 : decode cX5_theFirst 5 = .ok (.aload_n 0, 1) := by decide +kernel
theorem dX5_theFirst_6 : decode cX5_theFirst 6 = .ok (.getfield 26, 3) := by decide +kernel
theorem dX5_theFirst_9 : decode cX5_theFirst 9 = .ok (.invokeinterface 107 1, 5) := by decide +kernel
theorem dX5_theFirst_14 : decode cX5_theFirst 14 = .ok (.if_icmp .ge 44, 3) := by decide +kernel
theorem dX5_theFirst_17 : decode cX5_theFirst 17 = .ok (.aload_n 0, 1) := by decide +kernel
theorem dX5_theFirst_18 : decode cX5_theFirst 18 = .ok (.getfield 26, 3) := by decide +kernel
theorem dX5_theFirst_21 : decode cX5_theFirst 21 = .ok (.iload_n 2, 1) := by decide +kernel
theorem dX5_theFirst_22 : decode cX5_theFirst 22 = .ok (.invokeinterface 175 2, 5) := by decide +kernel
theorem dX5_theFirst_27 : decode cX5_theFirst 27 = .ok (.checkcast 113, 3) := by decide +kernel
theorem dX5_theFirst_30 : decode cX5_theFirst 30 = .ok (.astore_n 3, 1) := by decide +kernel
theorem dX5_theFirst_31 : decode cX5_theFirst 31 = .ok (.aload_n 3, 1) := by decide +kernel
theorem dX5_theFirst_32 : decode cX5_theFirst 32 = .ok (.invokevirtual 222, 3) := by decide +kernel
theorem dX5_theFirst_35 : decode cX5_theFirst 35 = .ok (.ifCond .eq 17, 3) := by decide +kernel
theorem dX5_theFirst_38 : decode cX5_theFirst 38 = .ok (.aload_n 1, 1) := by decide +kernel
theorem dX5_theFirst_39 : decode cX5_theFirst 39 = .ok (.ifnull 11, 3) := by decide +kernel
theorem dX5_theFirst_42 : decode cX5_theFirst 42 = .ok (.aload_n 3, 1) := by decide +kernel
theorem dX5_theFirst_43 : decode cX5_theFirst 43 = .ok (.aload_n 1, 1) := by decide +kernel
theorem dX5_theFirst_44 : decode cX5_theFirst 44 = .ok (.invokevirtual 284, 3) := by decide +kernel
theorem dX5_theFirst_47 : decode cX5_theFirst 47 = .ok (.ifCond .eq 5, 3) := by decide +kernel
theorem dX5_theFirst_50 : decode cX5_theFirst 50 = .ok (.aload_n 3, 1) := by decide +kernel
theorem dX5_theFirst_51 : decode cX5_theFirst 51 = .ok (.astore_n 1, 1) := by decide +kernel
theorem dX5_theFirst_52 : decode cX5_theFirst 52 = .ok (.iinc 2 1, 3) := by decide +kernel
theorem dX5_theFirst_55 : decode cX5_theFirst 55 = .ok (.goto (-51), 3) := by decide +kernel
theorem dX5_theFirst_58 : decode cX5_theFirst 58 = .ok (.aload_n 1, 1) := by decide +kernel
theorem dX5_theFirst_59 : decode cX5_theFirst 59 = .ok (.areturn, 1) := by decide +kernel
theorem dX5_distanceFromHome_0 : decode cX5_distanceFromHome 0 = .ok (.iload_n 1, 1) := by decide +kernel
theorem dX5_distanceFromHome_1 : decode cX5_distanceFromHome 1 = .ok (.bipush 16, 2) := by decide +kernel
theorem dX5_distanceFromHome_3 : decode cX5_distanceFromHome 3 = .ok (.irem, 1) := by decide +kernel
theorem dX5_distanceFromHome_4 : decode cX5_distanceFromHome 4 = .ok (.aload_n 0, 1) := by decide +kernel
theorem dX5_distanceFromHome_5 : decode cX5_distanceFromHome 5 = .ok (.getfield 41, 3) := by decide +kernel
theorem dX5_distanceFromHome_8 : decode cX5_distanceFromHome 8 = .ok (.bipush 16, 2) := by decide +kernel
theorem dX5_distanceFromHome_10 : decode cX5_distanceFromHome 10 = .ok (.irem, 1) := by decide +kernel
theorem dX5_distanceFromHome_11 : decode cX5_distanceFromHome 11 = .ok (.isub, 1) := by decide +kernel
theorem dX5_distanceFromHome_12 : decode cX5_distanceFromHome 12 = .ok (.invokestatic 251, 3) := by decide +kernel
theorem dX5_distanceFromHome_15 : decode cX5_distanceFromHome 15 = .ok (.istore_n 2, 1) := by decide +kernel
theorem dX5_distanceFromHome_16 : decode cX5_distanceFromHome 16 = .ok (.iload_n 1, 1) := by decide +kernel
theorem dX5_distanceFromHome_17 : decode cX5_distanceFromHome 17 = .ok (.bipush 16, 2) := by decide +kernel
theorem dX5_distanceFromHome_19 : decode cX5_distanceFromHome 19 = .ok (.idiv, 1) := by decide +kernel
theorem dX5_distanceFromHome_20 : decode cX5_distanceFromHome 20 = .ok (.aload_n 0, 1) := by decide +kernel
theorem dX5_distanceFromHome_21 : decode cX5_distanceFromHome 21 = .ok (.getfield 41, 3) := by decide +kernel
theorem dX5_distanceFromHome_24 : decode cX5_distanceFromHome 24 = .ok (.bipush 16, 2) := by decide +kernel
theorem dX5_distanceFromHome_26 : decode cX5_distanceFromHome 26 = .ok (.idiv, 1) := by decide +kernel
theorem dX5_distanceFromHome_27 : decode cX5_distanceFromHome 27 = .ok (.isub, 1) := by decide +kernel
theorem dX5_distanceFromHome_28 : decode cX5_distanceFromHome 28 = .ok (.invokestatic 251, 3) := by decide +kernel
theorem dX5_distanceFromHome_31 : decode cX5_distanceFromHome 31 = .ok (.istore_n 3, 1) := by decide +kernel
theorem dX5_distanceFromHome_32 : decode cX5_distanceFromHome 32 = .ok (.iload_n 2, 1) := by decide +kernel
theorem dX5_distanceFromHome_33 : decode cX5_distanceFromHome 33 = .ok (.iload_n 3, 1) := by decide +kernel
theorem dX5_distanceFromHome_34 : decode cX5_distanceFromHome 34 = .ok (.invokestatic 288, 3) := by decide +kernel
theorem dX5_distanceFromHome_37 : decode cX5_distanceFromHome 37 = .ok (.ireturn, 1) := by decide +kernel
set_option maxRecDepth 20000 in
theorem ggX5_leastDistance_X3_lastSightBy : GoodIn wsX5_leastDistance wsX3_lastSightBy := goodIn_r _ [11, 12, 13, 14, 15, 16, 17, 18, 19, 20, 21, 22, 23, 24, 25, 26, 27, 28, 29, 30, 31, 32, 33, 34, 35, 36, 37, 53, 54, 55, 56, 57, 58, 59, 60, 61, 62, 63, 64, 65, 66, 51, 52, 67, 68, 69] (by decide +kernel) (by decide +kernel)
set_option maxRecDepth 20000 in
theorem gX5_leastDistance_X3_lastSightBy : GoodIn wsX5_leastDistance (wsV RX5 291 RX3 yX3_lastSightBy wsX3_lastSightBy) := goodIn_app (goodIn_of _ (by decide +kernel)) ggX5_leastDistance_X3_lastSightBy
set_option maxRecDepth 20000 in
theorem ggX5_leastDistance_X3_firstSightFrom : GoodIn wsX5_leastDistance wsX3_firstSightFrom := goodIn_r _ [41, 12, 13, 14, 15, 16, 17, 18, 19, 20, 21, 22, 23, 24, 25, 26, 27, 28, 29, 30, 31, 32, 33, 34, 35, 36, 37, 53, 54, 55, 56, 57, 58, 59, 60, 61, 62, 63, 64, 65, 66, 51, 52, 67, 68, 69] (by decide +kernel) (by decide +kernel)
set_option maxRecDepth 20000 in
theorem gX5_leastDistance_X3_firstSightFrom : GoodIn wsX5_leastDistance (wsV RX5 295 RX3 yX3_firstSightFrom wsX3_firstSightFrom) := goodIn_app (goodIn_of _ (by decide +kernel)) ggX5_leastDistance_X3_firstSightFrom
set_option maxRecDepth 20000 in
theorem ggX5_leastDistance_X5_distanceFromHome : GoodIn wsX5_leastDistance wsX5_distanceFromHome := goodIn_r _ [46, 47, 48, 49, 5, 50, 3, 4, 6, 70, 71, 72, 73, 74, 75, 76, 77, 78, 79, 80, 81] (by decide +kernel) (by decide +kernel)
set_option maxRecDepth 20000 in
theorem gX5_leastDistance_X5_distanceFromHome : GoodIn wsX5_leastDistance (wsV RX5 299 RX5 yX5_distanceFromHome wsX5_distanceFromHome) := goodIn_app (goodIn_of _ (by decide +kernel)) ggX5_leastDistance_X5_distanceFromHome
theorem dX5_leastDistance_0 : decode cX5_leastDistance 0 = .ok (.aload_n 1, 1) := by decide +kernel
theorem dX5_leastDistance_1 : decode cX5_leastDistance 1 = .ok (.iload_n 2, 1) := by decide +kernel
theorem dX5_leastDistance_2 : decode cX5_leastDistance 2 = .ok (.invokevirtual 291, 3) := by decide +kernel
theorem dX5_leastDistance_5 : decode cX5_leastDistance 5 = .ok (.astore_n 3, 1) := by decide +kernel
theorem dX5_leastDistance_6 : decode cX5_leastDistance 6 = .ok (.aload_n 1, 1) := by decide +kernel
theorem dX5_leastDistance_7 : decode cX5_leastDistance 7 = .ok (.iload_n 2, 1) := by decide +kernel
theorem dX5_leastDistance_8 : decode cX5_leastDistance 8 = .ok (.invokevirtual 295, 3) := by decide +kernel
theorem dX5_leastDistance_11 : decode cX5_leastDistance 11 = .ok (.astore 4, 2) := by decide +kernel
theorem dX5_leastDistance_13 : decode cX5_leastDistance 13 = .ok (.aload_n 3, 1) := by decide +kernel
theorem dX5_leastDistance_14 : decode cX5_leastDistance 14 = .ok (.ifnull 8, 3) := by decide +kernel
theorem dX5_leastDistance_17 : decode cX5_leastDistance 17 = .ok (.aload 4, 2) := by decide +kernel
theorem dX5_leastDistance_19 : decode cX5_leastDistance 19 = .ok (.ifnonnull 6, 3) := by decide +kernel
theorem dX5_leastDistance_22 : decode cX5_leastDistance 22 = .ok (.bipush (-9), 2) := by decide +kernel
theorem dX5_leastDistance_24 : decode cX5_leastDistance 24 = .ok (.ireturn, 1) := by decide +kernel
theorem dX5_leastDistance_25 : decode cX5_leastDistance 25 = .ok (.aload_n 0, 1) := by decide +kernel
theorem dX5_leastDistance_26 : decode cX5_leastDistance 26 = .ok (.aload_n 3, 1) := by decide +kernel
theorem dX5_leastDistance_27 : decode cX5_leastDistance 27 = .ok (.getfield 298, 3) := by decide +kernel
theorem dX5_leastDistance_30 : decode cX5_leastDistance 30 = .ok (.invokevirtual 299, 3) := by decide +kernel
theorem dX5_leastDistance_33 : decode cX5_leastDistance 33 = .ok (.iload_n 2, 1) := by decide +kernel
theorem dX5_leastDistance_34 : decode cX5_leastDistance 34 = .ok (.aload_n 3, 1) := by decide +kernel
theorem dX5_leastDistance_35 : decode cX5_leastDistance 35 = .ok (.getfield 302, 3) := by decide +kernel
theorem dX5_leastDistance_38 : decode cX5_leastDistance 38 = .ok (.isub, 1) := by decide +kernel
theorem dX5_leastDistance_39 : decode cX5_leastDistance 39 = .ok (.isub, 1) := by decide +kernel
theorem dX5_leastDistance_40 : decode cX5_leastDistance 40 = .ok (.istore 5, 2) := by decide +kernel
theorem dX5_leastDistance_42 : decode cX5_leastDistance 42 = .ok (.aload_n 0, 1) := by decide +kernel
theorem dX5_leastDistance_43 : decode cX5_leastDistance 43 = .ok (.aload 4, 2) := by decide +kernel
theorem dX5_leastDistance_45 : decode cX5_leastDistance 45 = .ok (.getfield 298, 3) := by decide +kernel
theorem dX5_leastDistance_48 : decode cX5_leastDistance 48 = .ok (.invokevirtual 299, 3) := by decide +kernel
theorem dX5_leastDistance_51 : decode cX5_leastDistance 51 = .ok (.aload 4, 2) := by decide +kernel
theorem dX5_leastDistance_53 : decode cX5_leastDistance 53 = .ok (.getfield 302, 3) := by decide +kernel
theorem dX5_leastDistance_56 : decode cX5_leastDistance 56 = .ok (.iload_n 2, 1) := by decide +kernel
theorem dX5_leastDistance_57 : decode cX5_leastDistance 57 = .ok (.isub, 1) := by decide +kernel
theorem dX5_leastDistance_58 : decode cX5_leastDistance 58 = .ok (.isub, 1) := by decide +kernel
theorem dX5_leastDistance_59 : decode cX5_leastDistance 59 = .ok (.istore 6, 2) := by decide +kernel
theorem dX5_leastDistance_61 : decode cX5_leastDistance 61 = .ok (.iconst 0, 1) := by decide +kernel
theorem dX5_leastDistance_62 : decode cX5_leastDistance 62 = .ok (.iload 5, 2) := by decide +kernel
theorem dX5_leastDistance_64 : decode cX5_leastDistance 64 = .ok (.iload 6, 2) := by decide +kernel
theorem dX5_leastDistance_66 : decode cX5_leastDistance 66 = .ok (.invokestatic 288, 3) := by decide +kernel
theorem dX5_leastDistance_69 : decode cX5_leastDistance 69 = .ok (.invokestatic 288, 3) := by decide +kernel
theorem dX5_leastDistance_72 : decode cX5_leastDistance 72 = .ok (.ireturn, 1) := by decide +kernel
set_option maxRecDepth 20000 in
theorem ggX5_mostDistance_X3_lastSightBy : GoodIn wsX5_mostDistance wsX3_lastSightBy := goodIn_r _ [11, 12, 13, 14, 15, 16, 17, 18, 19, 20, 21, 22, 23, 24, 25, 26, 27, 28, 29, 30, 31, 32, 33, 34, 35, 36, 37, 56, 57, 58, 59, 60, 61, 62, 63, 64, 65, 66, 67, 68, 69, 54, 55, 70, 71, 72] (by decide +kernel) (by decide +kernel)
set_option maxRecDepth 20000 in
theorem gX5_mostDistance_X3_lastSightBy : GoodIn wsX5_mostDistance (wsV RX5 291 RX3 yX3_lastSightBy wsX3_lastSightBy) := goodIn_app (goodIn_of _ (by decide +kernel)) ggX5_mostDistance_X3_lastSightBy
set_option maxRecDepth 20000 in
theorem ggX5_mostDistance_X3_firstSightFrom : GoodIn wsX5_mostDistance wsX3_firstSightFrom := goodIn_r _ [41, 12, 13, 14, 15, 16, 17, 18, 19, 20, 21, 22, 23, 24, 25, 26, 27, 28, 29, 30, 31, 32, 33, 34, 35, 36, 37, 56, 57, 58, 59, 60, 61, 62, 63, 64, 65, 66, 67, 68, 69, 54, 55, 70, 71, 72] (by decide +kernel) (by decide +kernel)
set_option maxRecDepth 20000 in
theorem gX5_mostDistance_X3_firstSightFrom : GoodIn wsX5_mostDistance (wsV RX5 295 RX3 yX3_firstSightFrom wsX3_firstSightFrom) := goodIn_app (goodIn_of _ (by decide +kernel)) ggX5_mostDistance_X3_firstSightFrom
set_option maxRecDepth 20000 in
theorem ggX5_mostDistance_X5_distanceFromHome : GoodIn wsX5_mostDistance wsX5_distanceFromHome := goodIn_r _ [46, 47, 48, 49, 5, 50, 51, 52, 53, 73, 74, 75, 76, 77, 78, 79, 80, 81, 82, 83, 84] (by decide +kernel) (by decide +kernel)
set_option maxRecDepth 20000 in
theorem gX5_mostDistance_X5_distanceFromHome : GoodIn wsX5_mostDistance (wsV RX5 299 RX5 yX5_distanceFromHome wsX5_distanceFromHome) := goodIn_app (goodIn_of _ (by decide +kernel)) ggX5_mostDistance_X5_distanceFromHome
theorem dX5_mostDistance_0 : decode cX5_mostDistance 0 = .ok (.aload_n 1, 1) := by decide +kernel
theorem dX5_mostDistance_1 : decode cX5_mostDistance 1 = .ok (.iload_n 2, 1) := by decide +kernel
theorem dX5_mostDistance_2 : decode cX5_mostDistance 2 = .ok (.invokevirtual 291, 3) := by decide +kernel
theorem dX5_mostDistance_5 : decode cX5_mostDistance 5 = .ok (.astore_n 3, 1) := by decide +kernel
theorem dX5_mostDistance_6 : decode cX5_mostDistance 6 = .ok (.aload_n 1, 1) := by decide +kernel
theorem dX5_mostDistance_7 : decode cX5_mostDistance 7 = .ok (.iload_n 2, 1) := by decide +kernel
theorem dX5_mostDistance_8 : decode cX5_mostDistance 8 = .ok (.invokevirtual 295, 3) := by decide +kernel
theorem dX5_mostDistance_11 : decode cX5_mostDistance 11 = .ok (.astore 4, 2) := by decide +kernel
theorem dX5_mostDistance_13 : decode cX5_mostDistance 13 = .ok (.aload_n 3, 1) := by decide +kernel
theorem dX5_mostDistance_14 : decode cX5_mostDistance 14 = .ok (.ifnull 8, 3) := by decide +kernel
theorem dX5_mostDistance_17 : decode cX5_mostDistance 17 = .ok (.aload 4, 2) := by decide +kernel
theorem dX5_mostDistance_19 : decode cX5_mostDistance 19 = .ok (.ifnonnull 6, 3) := by decide +kernel
theorem dX5_mostDistance_22 : decode cX5_mostDistance 22 = .ok (.bipush (-9), 2) := by decide +kernel
theorem dX5_mostDistance_24 : decode cX5_mostDistance 24 = .ok (.ireturn, 1) := by decide +kernel
theorem dX5_mostDistance_25 : decode cX5_mostDistance 25 = .ok (.aload_n 0, 1) := by decide +kernel
theorem dX5_mostDistance_26 : decode cX5_mostDistance 26 = .ok (.aload_n 3, 1) := by decide +kernel
theorem dX5_mostDistance_27 : decode cX5_mostDistance 27 = .ok (.getfield 298, 3) := by decide +kernel
theorem dX5_mostDistance_30 : decode cX5_mostDistance 30 = .ok (.invokevirtual 299, 3) := by decide +kernel
theorem dX5_mostDistance_33 : decode cX5_mostDistance 33 = .ok (.iload_n 2, 1) := by decide +kernel
theorem dX5_mostDistance_34 : decode cX5_mostDistance 34 = .ok (.aload_n 3, 1) := by decide +kernel
theorem dX5_mostDistance_35 : decode cX5_mostDistance 35 = .ok (.getfield 302, 3) := by decide +kernel
theorem dX5_mostDistance_38 : decode cX5_mostDistance 38 = .ok (.isub, 1) := by decide +kernel
theorem dX5_mostDistance_39 : decode cX5_mostDistance 39 = .ok (.iadd, 1) := by decide +kernel
theorem dX5_mostDistance_40 : decode cX5_mostDistance 40 = .ok (.istore 5, 2) := by decide +kernel
theorem dX5_mostDistance_42 : decode cX5_mostDistance 42 = .ok (.aload_n 0, 1) := by decide +kernel
theorem dX5_mostDistance_43 : decode cX5_mostDistance 43 = .ok (.aload 4, 2) := by decide +kernel
theorem dX5_mostDistance_45 : decode cX5_mostDistance 45 = .ok (.getfield 298, 3) := by decide +kernel
theorem dX5_mostDistance_48 : decode cX5_mostDistance 48 = .ok (.invokevirtual 299, 3) := by decide +kernel
theorem dX5_mostDistance_51 : decode cX5_mostDistance 51 = .ok (.aload 4, 2) := by decide +kernel
theorem dX5_mostDistance_53 : decode cX5_mostDistance 53 = .ok (.getfield 302, 3) := by decide +kernel
theorem dX5_mostDistance_56 : decode cX5_mostDistance 56 = .ok (.iload_n 2, 1) := by decide +kernel
theorem dX5_mostDistance_57 : decode cX5_mostDistance 57 = .ok (.isub, 1) := by decide +kernel
theorem dX5_mostDistance_58 : decode cX5_mostDistance 58 = .ok (.iadd, 1) := by decide +kernel
theorem dX5_mostDistance_59 : decode cX5_mostDistance 59 = .ok (.istore 6, 2) := by decide +kernel
theorem dX5_mostDistance_61 : decode cX5_mostDistance 61 = .ok (.iload 5, 2) := by decide +kernel
theorem dX5_mostDistance_63 : decode cX5_mostDistance 63 = .ok (.iload 6, 2) := by decide +kernel
theorem dX5_mostDistance_65 : decode cX5_mostDistance 65 = .ok (.invokestatic 256, 3) := by decide +kernel
theorem dX5_mostDistance_68 : decode cX5_mostDistance 68 = .ok (.ireturn, 1) := by decide +kernel
set_option maxRecDepth 20000 in
theorem ggX5_priceAtEntry_Jx4a65c_size_8abf5 : GoodIn wsX5_priceAtEntry wsJx4a65c_size_8abf5 := goodIn_r _ [14, 15, 71, 72, 73] (by decide +kernel) (by decide +kernel)
set_option maxRecDepth 20000 in
theorem gX5_priceAtEntry_Jx4a65c_size_8abf5_f107Jx4a65c : GoodIn wsX5_priceAtEntry (va_wsF RX5 107 RJx4a65c ⟨"java/util/List", "size", "()I"⟩ yJx4a65c_size_8abf5 wsJx4a65c_size_8abf5) := goodIn_app (goodIn_of _ (by decide +kernel)) ggX5_priceAtEntry_Jx4a65c_size_8abf5
set_option maxRecDepth 20000 in
theorem ggX5_priceAtEntry_Jx4a65c_get_915e3 : GoodIn wsX5_priceAtEntry wsJx4a65c_get_915e3 := goodIn_r _ [19, 15, 20, 21, 22, 23, 24, 25, 26, 27, 28, 29, 30, 13, 31, 32, 71, 72, 73] (by decide +kernel) (by decide +kernel)
set_option maxRecDepth 20000 in
theorem gX5_priceAtEntry_Jx4a65c_get_915e3_f175Jx4a65c : GoodIn wsX5_priceAtEntry (va_wsF RX5 175 RJx4a65c ⟨"java/util/List", "get", "(I)Ljava/lang/Object;"⟩ yJx4a65c_get_915e3 wsJx4a65c_get_915e3) := goodIn_app (goodIn_of _ (by decide +kernel)) ggX5_priceAtEntry_Jx4a65c_get_915e3
set_option maxRecDepth 20000 in
theorem ggX5_priceAtEntry_X3_isHome : GoodIn wsX5_priceAtEntry wsX3_isHome := goodIn_r _ [37, 38, 57, 58, 59, 60, 61, 62, 63, 64, 65, 66, 67, 68, 69, 70] (by decide +kernel) (by decide +kernel)
set_option maxRecDepth 20000 in
theorem gX5_priceAtEntry_X3_isHome : GoodIn wsX5_priceAtEntry (wsV RX5 222 RX3 yX3_isHome wsX3_isHome) := goodIn_app (goodIn_of _ (by decide +kernel)) ggX5_priceAtEntry_X3_isHome
set_option maxRecDepth 20000 in
theorem ggX5_priceAtEntry_X3_entersBefore : GoodIn wsX5_priceAtEntry wsX3_entersBefore := goodIn_r _ [42, 43, 44, 57, 58, 59, 60, 61, 62, 63, 64, 65, 66, 67, 68, 69, 70] (by decide +kernel) (by decide +kernel)
set_option maxRecDepth 20000 in
theorem gX5_priceAtEntry_X3_entersBefore : GoodIn wsX5_priceAtEntry (wsV RX5 303 RX3 yX3_entersBefore wsX3_entersBefore) := goodIn_app (goodIn_of _ (by decide +kernel)) ggX5_priceAtEntry_X3_entersBefore
theorem dX5_priceAtEntry_0 : decode cX5_priceAtEntry 0 = .ok (.iconst 0, 1) := by decide +kernel
theorem dX5_priceAtEntry_1 : decode cX5_priceAtEntry 1 = .ok (.istore_n 2, 1) := by decide +kernel
theorem dX5_priceAtEntry_2 : decode cX5_priceAtEntry 2 = .ok (.iconst 0, 1) := by decide +kernel
theorem dX5_priceAtEntry_3 : decode cX5_priceAtEntry 3 = .ok (.istore_n 3, 1) := by decide +kernel
theorem dX5_priceAtEntry_4 : decode cX5_priceAtEntry 4 = .ok (.iload_n 3, 1) := by decide +kernel
theorem dX5_priceAtEntry_5 : decode cX5_priceAtEntry 5 = .ok (.aload_n 0, 1) := by decide +kernel
theorem dX5_priceAtEntry_6 : decode cX5_priceAtEntry 6 = .ok (.getfield 26, 3) := by decide +kernel
theorem dX5_priceAtEntry_9 : decode cX5_priceAtEntry 9 = .ok (.invokeinterface 107 1, 5) := by decide +kernel
theorem dX5_priceAtEntry_14 : decode cX5_priceAtEntry 14 = .ok (.if_icmp .ge 49, 3) := by decide +kernel
theorem dX5_priceAtEntry_17 : decode cX5_priceAtEntry 17 = .ok (.aload_n 0, 1) := by decide +kernel
theorem dX5_priceAtEntry_18 : decode cX5_priceAtEntry 18 = .ok (.getfield 26, 3) := by decide +kernel
theorem dX5_priceAtEntry_21 : decode cX5_priceAtEntry 21 = .ok (.iload_n 3, 1) := by decide +kernel
theorem dX5_priceAtEntry_22 : decode cX5_priceAtEntry 22 = .ok (.invokeinterface 175 2, 5) := by decide +kernel
theorem dX5_priceAtEntry_27 : decode cX5_priceAtEntry 27 = .ok (.checkcast 113, 3) := by decide +kernel
theorem dX5_priceAtEntry_30 : decode cX5_priceAtEntry 30 = .ok (.astore 4, 2) := by decide +kernel
theorem dX5_priceAtEntry_32 : decode cX5_priceAtEntry 32 = .ok (.aload 4, 2) := by decide +kernel
theorem dX5_priceAtEntry_34 : decode cX5_priceAtEntry 34 = .ok (.invokevirtual 222, 3) := by decide +kernel
theorem dX5_priceAtEntry_37 : decode cX5_priceAtEntry 37 = .ok (.ifCond .eq 20, 3) := by decide +kernel
theorem dX5_priceAtEntry_40 : decode cX5_priceAtEntry 40 = .ok (.aload 4, 2) := by decide +kernel
theorem dX5_priceAtEntry_42 : decode cX5_priceAtEntry 42 = .ok (.aload_n 1, 1) := by decide +kernel
theorem dX5_priceAtEntry_43 : decode cX5_priceAtEntry 43 = .ok (.invokevirtual 303, 3) := by decide +kernel
theorem dX5_priceAtEntry_46 : decode cX5_priceAtEntry 46 = .ok (.ifCond .eq 11, 3) := by decide +kernel
theorem dX5_priceAtEntry_49 : decode cX5_priceAtEntry 49 = .ok (.iload_n 2, 1) := by decide +kernel
theorem dX5_priceAtEntry_50 : decode cX5_priceAtEntry 50 = .ok (.aload 4, 2) := by decide +kernel
theorem dX5_priceAtEntry_52 : decode cX5_priceAtEntry 52 = .ok (.getfield 147, 3) := by decide +kernel
theorem dX5_priceAtEntry_55 : decode cX5_priceAtEntry 55 = .ok (.iadd, 1) := by decide +kernel
theorem dX5_priceAtEntry_56 : decode cX5_priceAtEntry 56 = .ok (.istore_n 2, 1) := by decide +kernel
theorem dX5_priceAtEntry_57 : decode cX5_priceAtEntry 57 = .ok (.iinc 3 1, 3) := by decide +kernel
theorem dX5_priceAtEntry_60 : decode cX5_priceAtEntry 60 = .ok (.goto (-56), 3) := by decide +kernel
theorem dX5_priceAtEntry_63 : decode cX5_priceAtEntry 63 = .ok (.iload_n 2, 1) := by decide +kernel
theorem dX5_priceAtEntry_64 : decode cX5_priceAtEntry 64 = .ok (.bipush 100, 2) := by decide +kernel
theorem dX5_priceAtEntry_66 : decode cX5_priceAtEntry 66 = .ok (.iadd, 1) := by decide +kernel
theorem dX5_priceAtEntry_67 : decode cX5_priceAtEntry 67 = .ok (.iconst 1, 1) := by decide +kernel
theorem dX5_priceAtEntry_68 : decode cX5_priceAtEntry 68 = .ok (.isub, 1) := by decide +kernel
theorem dX5_priceAtEntry_69 : decode cX5_priceAtEntry 69 = .ok (.bipush 100, 2) := by decide +kernel
theorem dX5_priceAtEntry_71 : decode cX5_priceAtEntry 71 = .ok (.idiv, 1) := by decide +kernel
theorem dX5_priceAtEntry_72 : decode cX5_priceAtEntry 72 = .ok (.istore_n 3, 1) := by decide +kernel
theorem dX5_priceAtEntry_73 : decode cX5_priceAtEntry 73 = .ok (.iconst 1, 1) := by decide +kernel
theorem dX5_priceAtEntry_74 : decode cX5_priceAtEntry 74 = .ok (.aload_n 0, 1) := by decide +kernel
theorem dX5_priceAtEntry_75 : decode cX5_priceAtEntry 75 = .ok (.getfield 50, 3) := by decide +kernel
theorem dX5_priceAtEntry_78 : decode cX5_priceAtEntry 78 = .ok (.aload_n 0, 1) := by decide +kernel
theorem dX5_priceAtEntry_79 : decode cX5_priceAtEntry 79 = .ok (.getfield 53, 3) := by decide +kernel
theorem dX5_priceAtEntry_82 : decode cX5_priceAtEntry 82 = .ok (.iload_n 3, 1) := by decide +kernel
theorem dX5_priceAtEntry_83 : decode cX5_priceAtEntry 83 = .ok (.imul, 1) := by decide +kernel
theorem dX5_priceAtEntry_84 : decode cX5_priceAtEntry 84 = .ok (.isub, 1) := by decide +kernel
theorem dX5_priceAtEntry_85 : decode cX5_priceAtEntry 85 = .ok (.invokestatic 288, 3) := by decide +kernel
theorem dX5_priceAtEntry_88 : decode cX5_priceAtEntry 88 = .ok (.ireturn, 1) := by decide +kernel
set_option maxRecDepth 20000 in
theorem ggX5_takings_X5_priceAtEntry : GoodIn wsX5_takings wsX5_priceAtEntry := goodIn_r _ [6, 7, 8, 1, 9, 10, 11, 12, 13, 14, 15, 16, 17, 18, 19, 20, 21, 22, 23, 24, 25, 26, 27, 28, 29, 30, 31, 32, 33, 34, 35, 36, 37, 38, 39, 40, 41, 42, 43, 44, 45, 46, 47, 48, 49, 64, 65, 66, 67, 68, 69, 70, 71, 72, 73, 74, 75, 50, 51, 52, 53, 54, 55, 56, 57, 58, 59, 60, 61, 62, 63, 76, 77, 78] (by decide +kernel) (by decide +kernel)
set_option maxRecDepth 20000 in
theorem gX5_takings_X5_priceAtEntry : GoodIn wsX5_takings (wsV RX5 230 RX5 yX5_priceAtEntry wsX5_priceAtEntry) := goodIn_app (goodIn_of _ (by decide +kernel)) ggX5_takings_X5_priceAtEntry
theorem dX5_takings_0 : decode cX5_takings 0 = .ok (.aload_n 1, 1) := by decide +kernel
theorem dX5_takings_1 : decode cX5_takings 1 = .ok (.getfield 147, 3) := by decide +kernel
theorem dX5_takings_4 : decode cX5_takings 4 = .ok (.i2l, 1) := by decide +kernel
theorem dX5_takings_5 : decode cX5_takings 5 = .ok (.aload_n 0, 1) := by decide +kernel
theorem dX5_takings_6 : decode cX5_takings 6 = .ok (.aload_n 1, 1) := by decide +kernel
theorem dX5_takings_7 : decode cX5_takings 7 = .ok (.invokevirtual 230, 3) := by decide +kernel
theorem dX5_takings_10 : decode cX5_takings 10 = .ok (.i2l, 1) := by decide +kernel
theorem dX5_takings_11 : decode cX5_takings 11 = .ok (.lmul, 1) := by decide +kernel
theorem dX5_takings_12 : decode cX5_takings 12 = .ok (.lreturn, 1) := by decide +kernel
theorem dX6_init_0 : decode cX6_init 0 = .ok (.aload_n 0, 1) := by decide +kernel
theorem dX6_init_1 : decode cX6_init 1 = .ok (.invokespecial 1, 3) := by decide +kernel
theorem dX6_init_4 : decode cX6_init 4 = .ok (.aload_n 0, 1) := by decide +kernel
theorem dX6_init_5 : decode cX6_init 5 = .ok (.bipush 6, 2) := by decide +kernel
theorem dX6_init_7 : decode cX6_init 7 = .ok (.newarray .int, 2) := by decide +kernel
theorem dX6_init_9 : decode cX6_init 9 = .ok (.putfield 7, 3) := by decide +kernel
theorem dX6_init_12 : decode cX6_init 12 = .ok (.aload_n 0, 1) := by decide +kernel
theorem dX6_init_13 : decode cX6_init 13 = .ok (.sipush 160, 3) := by decide +kernel
theorem dX6_init_16 : decode cX6_init 16 = .ok (.newarray .boolean, 2) := by decide +kernel
theorem dX6_init_18 : decode cX6_init 18 = .ok (.putfield 13, 3) := by decide +kernel
theorem dX6_init_21 : decode cX6_init 21 = .ok (.aload_n 0, 1) := by decide +kernel
theorem dX6_init_22 : decode cX6_init 22 = .ok (.bipush 12, 2) := by decide +kernel
theorem dX6_init_24 : decode cX6_init 24 = .ok (.newarray .boolean, 2) := by decide +kernel
theorem dX6_init_26 : decode cX6_init 26 = .ok (.putfield 17, 3) := by decide +kernel
theorem dX6_init_29 : decode cX6_init 29 = .ok (.aload_n 0, 1) := by decide +kernel
theorem dX6_init_30 : decode cX6_init 30 = .ok (.sipush 1920, 3) := by decide +kernel
theorem dX6_init_33 : decode cX6_init 33 = .ok (.newarray .int, 2) := by decide +kernel
theorem dX6_init_35 : decode cX6_init 35 = .ok (.putfield 20, 3) := by decide +kernel
theorem dX6_init_38 : decode cX6_init 38 = .ok (.aload_n 0, 1) := by decide +kernel
theorem dX6_init_39 : decode cX6_init 39 = .ok (.sipush 160, 3) := by decide +kernel
theorem dX6_init_42 : decode cX6_init 42 = .ok (.newarray .int, 2) := by decide +kernel
theorem dX6_init_44 : decode cX6_init 44 = .ok (.putfield 23, 3) := by decide +kernel
theorem dX6_init_47 : decode cX6_init 47 = .ok (.aload_n 0, 1) := by decide +kernel
theorem dX6_init_48 : decode cX6_init 48 = .ok (.bipush 8, 2) := by decide +kernel
theorem dX6_init_50 : decode cX6_init 50 = .ok (.newarray .int, 2) := by decide +kernel
theorem dX6_init_52 : decode cX6_init 52 = .ok (.putfield 26, 3) := by decide +kernel
theorem dX6_init_55 : decode cX6_init 55 = .ok (.aload_n 0, 1) := by decide +kernel
theorem dX6_init_56 : decode cX6_init 56 = .ok (.bipush 8, 2) := by decide +kernel
theorem dX6_init_58 : decode cX6_init 58 = .ok (.newarray .int, 2) := by decide +kernel
theorem dX6_init_60 : decode cX6_init 60 = .ok (.putfield 29, 3) := by decide +kernel
theorem dX6_init_63 : decode cX6_init 63 = .ok (.aload_n 0, 1) := by decide +kernel
theorem dX6_init_64 : decode cX6_init 64 = .ok (.bipush 8, 2) := by decide +kernel
theorem dX6_init_66 : decode cX6_init 66 = .ok (.newarray .int, 2) := by decide +kernel
theorem dX6_init_68 : decode cX6_init 68 = .ok (.putfield 32, 3) := by decide +kernel
theorem dX6_init_71 : decode cX6_init 71 = .ok (.aload_n 0, 1) := by decide +kernel
theorem dX6_init_72 : decode cX6_init 72 = .ok (.bipush 8, 2) := by decide +kernel
theorem dX6_init_74 : decode cX6_init 74 = .ok (.newarray .int, 2) := by decide +kernel
theorem dX6_init_76 : decode cX6_init 76 = .ok (.putfield 35, 3) := by decide +kernel
theorem dX6_init_79 : decode cX6_init 79 = .ok (.aload_n 0, 1) := by decide +kernel
theorem dX6_init_80 : decode cX6_init 80 = .ok (.bipush 8, 2) := by decide +kernel
theorem dX6_init_82 : decode cX6_init 82 = .ok (.newarray .int, 2) := by decide +kernel
theorem dX6_init_84 : decode cX6_init 84 = .ok (.putfield 38, 3) := by decide +kernel
theorem dX6_init_87 : decode cX6_init 87 = .ok (.aload_n 0, 1) := by decide +kernel
theorem dX6_init_88 : decode cX6_init 88 = .ok (.bipush 8, 2) := by decide +kernel
theorem dX6_init_90 : decode cX6_init 90 = .ok (.newarray .int, 2) := by decide +kernel
theorem dX6_init_92 : decode cX6_init 92 = .ok (.putfield 41, 3) := by decide +kernel
theorem dX6_init_95 : decode cX6_init 95 = .ok (.aload_n 0, 1) := by decide +kernel
theorem dX6_init_96 : decode cX6_init 96 = .ok (.bipush 8, 2) := by decide +kernel
theorem dX6_init_98 : decode cX6_init 98 = .ok (.newarray .int, 2) := by decide +kernel
theorem dX6_init_100 : decode cX6_init 100 = .ok (.putfield 44, 3) := by decide +kernel
theorem dX6_init_103 : decode cX6_init 103 = .ok (.aload_n 0, 1) := by decide +kernel
theorem dX6_init_104 : decode cX6_init 104 = .ok (.bipush 8, 2) := by decide +kernel
theorem dX6_init_106 : decode cX6_init 106 = .ok (.newarray .int, 2) := by decide +kernel
theorem dX6_init_108 : decode cX6_init 108 = .ok (.putfield 47, 3) := by decide +kernel
theorem dX6_init_111 : decode cX6_init 111 = .ok (.aload_n 0, 1) := by decide +kernel
theorem dX6_init_112 : decode cX6_init 112 = .ok (.bipush 8, 2) := by decide +kernel
theorem dX6_init_114 : decode cX6_init 114 = .ok (.newarray .int, 2) := by decide +kernel
theorem dX6_init_116 : decode cX6_init 116 = .ok (.putfield 50, 3) := by decide +kernel
theorem dX6_init_119 : decode cX6_init 119 = .ok (.aload_n 0, 1) := by decide +kernel
theorem dX6_init_120 : decode cX6_init 120 = .ok (.sipush 960, 3) := by decide +kernel
theorem dX6_init_123 : decode cX6_init 123 = .ok (.newarray .int, 2) := by decide +kernel
theorem dX6_init_125 : decode cX6_init 125 = .ok (.putfield 53, 3) := by decide +kernel
theorem dX6_init_128 : decode cX6_init 128 = .ok (.aload_n 0, 1) := by decide +kernel
theorem dX6_init_129 : decode cX6_init 129 = .ok (.bipush 8, 2) := by decide +kernel
theorem dX6_init_131 : decode cX6_init 131 = .ok (.newarray .int, 2) := by decide +kernel
theorem dX6_init_133 : decode cX6_init 133 = .ok (.putfield 56, 3) := by decide +kernel
theorem dX6_init_136 : decode cX6_init 136 = .ok (.aload_n 0, 1) := by decide +kernel
theorem dX6_init_137 : decode cX6_init 137 = .ok (.bipush 8, 2) := by decide +kernel
theorem dX6_init_139 : decode cX6_init 139 = .ok (.newarray .int, 2) := by decide +kernel
theorem dX6_init_141 : decode cX6_init 141 = .ok (.putfield 59, 3) := by decide +kernel
theorem dX6_init_144 : decode cX6_init 144 = .ok (.aload_n 0, 1) := by decide +kernel
theorem dX6_init_145 : decode cX6_init 145 = .ok (.sipush 160, 3) := by decide +kernel
theorem dX6_init_148 : decode cX6_init 148 = .ok (.newarray .int, 2) := by decide +kernel
theorem dX6_init_150 : decode cX6_init 150 = .ok (.putfield 62, 3) := by decide +kernel
theorem dX6_init_153 : decode cX6_init 153 = .ok (.aload_n 0, 1) := by decide +kernel
theorem dX6_init_154 : decode cX6_init 154 = .ok (.sipush 160, 3) := by decide +kernel
theorem dX6_init_157 : decode cX6_init 157 = .ok (.newarray .boolean, 2) := by decide +kernel
theorem dX6_init_159 : decode cX6_init 159 = .ok (.putfield 65, 3) := by decide +kernel
theorem dX6_init_162 : decode cX6_init 162 = .ok (.aload_n 0, 1) := by decide +kernel
theorem dX6_init_163 : decode cX6_init 163 = .ok (.bipush 60, 2) := by decide +kernel
theorem dX6_init_165 : decode cX6_init 165 = .ok (.newarray .int, 2) := by decide +kernel
theorem dX6_init_167 : decode cX6_init 167 = .ok (.putfield 68, 3) := by decide +kernel
theorem dX6_init_170 : decode cX6_init 170 = .ok (.aload_n 0, 1) := by decide +kernel
theorem dX6_init_171 : decode cX6_init 171 = .ok (.bipush 60, 2) := by decide +kernel
theorem dX6_init_173 : decode cX6_init 173 = .ok (.newarray .int, 2) := by decide +kernel
theorem dX6_init_175 : decode cX6_init 175 = .ok (.putfield 71, 3) := by decide +kernel
theorem dX6_init_178 : decode cX6_init 178 = .ok (.aload_n 0, 1) := by decide +kernel
theorem dX6_init_179 : decode cX6_init 179 = .ok (.bipush 60, 2) := by decide +kernel
theorem dX6_init_181 : decode cX6_init 181 = .ok (.newarray .int, 2) := by decide +kernel
theorem dX6_init_183 : decode cX6_init 183 = .ok (.putfield 74, 3) := by decide +kernel
theorem dX6_init_186 : decode cX6_init 186 = .ok (.aload_n 0, 1) := by decide +kernel
theorem dX6_init_187 : decode cX6_init 187 = .ok (.bipush 100, 2) := by decide +kernel
theorem dX6_init_189 : decode cX6_init 189 = .ok (.putfield 77, 3) := by decide +kernel
theorem dX6_init_192 : decode cX6_init 192 = .ok (.aload_n 0, 1) := by decide +kernel
theorem dX6_init_193 : decode cX6_init 193 = .ok (.iconst 1, 1) := by decide +kernel
theorem dX6_init_194 : decode cX6_init 194 = .ok (.putfield 81, 3) := by decide +kernel
theorem dX6_init_197 : decode cX6_init 197 = .ok (.return_, 1) := by decide +kernel
theorem dX6_in_0 : decode cX6_in 0 = .ok (.iload_n 0, 1) := by decide +kernel
theorem dX6_in_1 : decode cX6_in 1 = .ok (.iload_n 1, 1) := by decide +kernel
theorem dX6_in_2 : decode cX6_in 2 = .ok (.if_icmp .lt 12, 3) := by decide +kernel
theorem dX6_in_5 : decode cX6_in 5 = .ok (.iload_n 0, 1) := by decide +kernel
theorem dX6_in_6 : decode cX6_in 6 = .ok (.iload_n 2, 1) := by decide +kernel
theorem dX6_in_7 : decode cX6_in 7 = .ok (.if_icmp .gt 7, 3) := by decide +kernel
theorem dX6_in_10 : decode cX6_in 10 = .ok (.iconst 1, 1) := by decide +kernel
theorem dX6_in_11 : decode cX6_in 11 = .ok (.goto 4, 3) := by decide +kernel
theorem dX6_in_14 : decode cX6_in 14 = .ok (.iconst 0, 1) := by decide +kernel
theorem dX6_in_15 : decode cX6_in 15 = .ok (.ireturn, 1) := by decide +kernel
theorem dX6_meets_0 : decode cX6_meets 0 = .ok (.aload_n 0, 1) := by decide +kernel
theorem dX6_meets_1 : decode cX6_meets 1 = .ok (.iload_n 1, 1) := by decide +kernel
theorem dX6_meets_2 : decode cX6_meets 2 = .ok (.putfield 84, 3) := by decide +kernel
theorem dX6_meets_5 : decode cX6_meets 5 = .ok (.aload_n 0, 1) := by decide +kernel
theorem dX6_meets_6 : decode cX6_meets 6 = .ok (.getfield 7, 3) := by decide +kernel
theorem dX6_meets_9 : decode cX6_meets 9 = .ok (.iload_n 1, 1) := by decide +kernel
theorem dX6_meets_10 : decode cX6_meets 10 = .ok (.dup2, 1) := by decide +kernel
theorem dX6_meets_11 : decode cX6_meets 11 = .ok (.iaload, 1) := by decide +kernel
theorem dX6_meets_12 : decode cX6_meets 12 = .ok (.iconst 1, 1) := by decide +kernel
theorem dX6_meets_13 : decode cX6_meets 13 = .ok (.iadd, 1) := by decide +kernel
theorem dX6_meets_14 : decode cX6_meets 14 = .ok (.iastore, 1) := by decide +kernel
theorem dX6_meets_15 : decode cX6_meets 15 = .ok (.bipush (-3), 2) := by decide +kernel
theorem dX6_meets_17 : decode cX6_meets 17 = .ok (.ireturn, 1) := by decide +kernel
set_option maxRecDepth 20000 in
theorem ggX6_isCell_X6_in : GoodIn wsX6_isCell wsX6_in := goodIn_r _ [4] (by decide +kernel) (by decide +kernel)
set_option maxRecDepth 20000 in
theorem gX6_isCell_X6_in : GoodIn wsX6_isCell (va_wsS RX6 87 yX6_in wsX6_in) := goodIn_app (goodIn_of _ (by decide +kernel)) ggX6_isCell_X6_in
theorem dX6_isCell_0 : decode cX6_isCell 0 = .ok (.iload_n 0, 1) := by decide +kernel
theorem dX6_isCell_1 : decode cX6_isCell 1 = .ok (.iconst 0, 1) := by decide +kernel
theorem dX6_isCell_2 : decode cX6_isCell 2 = .ok (.sipush 159, 3) := by decide +kernel
theorem dX6_isCell_5 : decode cX6_isCell 5 = .ok (.invokestatic 87, 3) := by decide +kernel
theorem dX6_isCell_8 : decode cX6_isCell 8 = .ok (.ireturn, 1) := by decide +kernel
set_option maxRecDepth 20000 in
theorem ggX6_isMonth_X6_in : GoodIn wsX6_isMonth wsX6_in := goodIn_r _ [4] (by decide +kernel) (by decide +kernel)
set_option maxRecDepth 20000 in
theorem gX6_isMonth_X6_in : GoodIn wsX6_isMonth (va_wsS RX6 87 yX6_in wsX6_in) := goodIn_app (goodIn_of _ (by decide +kernel)) ggX6_isMonth_X6_in
theorem dX6_isMonth_0 : decode cX6_isMonth 0 = .ok (.iload_n 0, 1) := by decide +kernel
theorem dX6_isMonth_1 : decode cX6_isMonth 1 = .ok (.iconst 0, 1) := by decide +kernel
theorem dX6_isMonth_2 : decode cX6_isMonth 2 = .ok (.bipush 11, 2) := by decide +kernel
theorem dX6_isMonth_4 : decode cX6_isMonth 4 = .ok (.invokestatic 87, 3) := by decide +kernel
theorem dX6_isMonth_7 : decode cX6_isMonth 7 = .ok (.ireturn, 1) := by decide +kernel
set_option maxRecDepth 20000 in
theorem ggX6_land_X6_isCell : GoodIn wsX6_land wsX6_isCell := goodIn_r _ [5, 6, 7, 4, 8] (by decide +kernel) (by decide +kernel)
set_option maxRecDepth 20000 in
theorem gX6_land_X6_isCell : GoodIn wsX6_land (va_wsS RX6 91 yX6_isCell wsX6_isCell) := goodIn_app (goodIn_of _ (by decide +kernel)) ggX6_land_X6_isCell
theorem dX6_land_0 : decode cX6_land 0 = .ok (.iload_n 1, 1) := by decide +kernel
theorem dX6_land_1 : decode cX6_land 1 = .ok (.invokestatic 91, 3) := by decide +kernel
theorem dX6_land_4 : decode cX6_land 4 = .ok (.ifCond .ne 5, 3) := by decide +kernel
theorem dX6_land_7 : decode cX6_land 7 = .ok (.iconst (-1), 1) := by decide +kernel
theorem dX6_land_8 : decode cX6_land 8 = .ok (.ireturn, 1) := by decide +kernel
theorem dX6_land_9 : decode cX6_land 9 = .ok (.aload_n 0, 1) := by decide +kernel
theorem dX6_land_10 : decode cX6_land 10 = .ok (.getfield 13, 3) := by decide +kernel
theorem dX6_land_13 : decode cX6_land 13 = .ok (.iload_n 1, 1) := by decide +kernel
theorem dX6_land_14 : decode cX6_land 14 = .ok (.baload, 1) := by decide +kernel
theorem dX6_land_15 : decode cX6_land 15 = .ok (.ifCond .eq 7, 3) := by decide +kernel
theorem dX6_land_18 : decode cX6_land 18 = .ok (.iconst 1, 1) := by decide +kernel
theorem dX6_land_19 : decode cX6_land 19 = .ok (.goto 4, 3) := by decide +kernel
theorem dX6_land_22 : decode cX6_land 22 = .ok (.iconst 0, 1) := by decide +kernel
theorem dX6_land_23 : decode cX6_land 23 = .ok (.istore_n 3, 1) := by decide +kernel
theorem dX6_land_24 : decode cX6_land 24 = .ok (.aload_n 0, 1) := by decide +kernel
theorem dX6_land_25 : decode cX6_land 25 = .ok (.getfield 13, 3) := by decide +kernel
theorem dX6_land_28 : decode cX6_land 28 = .ok (.iload_n 1, 1) := by decide +kernel
theorem dX6_land_29 : decode cX6_land 29 = .ok (.iload_n 2, 1) := by decide +kernel
theorem dX6_land_30 : decode cX6_land 30 = .ok (.bastore, 1) := by decide +kernel
theorem dX6_land_31 : decode cX6_land 31 = .ok (.iload_n 3, 1) := by decide +kernel
theorem dX6_land_32 : decode cX6_land 32 = .ok (.ireturn, 1) := by decide +kernel
set_option maxRecDepth 20000 in
theorem ggX6_looked_X6_isMonth : GoodIn wsX6_looked wsX6_isMonth := goodIn_r _ [5, 6, 7, 4, 8] (by decide +kernel) (by decide +kernel)
set_option maxRecDepth 20000 in
theorem gX6_looked_X6_isMonth : GoodIn wsX6_looked (va_wsS RX6 95 yX6_isMonth wsX6_isMonth) := goodIn_app (goodIn_of _ (by decide +kernel)) ggX6_looked_X6_isMonth
set_option maxRecDepth 20000 in
theorem ggX6_looked_X6_meets : GoodIn wsX6_looked wsX6_meets := goodIn_r _ [12, 13, 14, 15, 16, 17, 18, 19, 20, 21, 22, 23, 24, 25, 26, 27, 28, 29, 30, 31, 32, 33, 34, 35, 36, 37, 38, 39, 40, 41, 42, 43, 44, 45] (by decide +kernel) (by decide +kernel)
set_option maxRecDepth 20000 in
theorem gX6_looked_X6_meets : GoodIn wsX6_looked (wsV RX6 98 RX6 yX6_meets wsX6_meets) := goodIn_app (goodIn_of _ (by decide +kernel)) ggX6_looked_X6_meets
theorem dX6_looked_0 : decode cX6_looked 0 = .ok (.iload_n 1, 1) := by decide +kernel
theorem dX6_looked_1 : decode cX6_looked 1 = .ok (.invokestatic 95, 3) := by decide +kernel
theorem dX6_looked_4 : decode cX6_looked 4 = .ok (.ifCond .ne 7, 3) := by decide +kernel
theorem dX6_looked_7 : decode cX6_looked 7 = .ok (.iconst (-1), 1) := by decide +kernel
theorem dX6_looked_8 : decode cX6_looked 8 = .ok (.goto 21, 3) := by decide +kernel
theorem dX6_looked_11 : decode cX6_looked 11 = .ok (.aload_n 0, 1) := by decide +kernel
theorem dX6_looked_12 : decode cX6_looked 12 = .ok (.getfield 17, 3) := by decide +kernel
theorem dX6_looked_15 : decode cX6_looked 15 = .ok (.iload_n 1, 1) := by decide +kernel
theorem dX6_looked_16 : decode cX6_looked 16 = .ok (.baload, 1) := by decide +kernel
theorem dX6_looked_17 : decode cX6_looked 17 = .ok (.ifCond .eq 7, 3) := by decide +kernel
theorem dX6_looked_20 : decode cX6_looked 20 = .ok (.iconst 0, 1) := by decide +kernel
theorem dX6_looked_21 : decode cX6_looked 21 = .ok (.goto 8, 3) := by decide +kernel
theorem dX6_looked_24 : decode cX6_looked 24 = .ok (.aload_n 0, 1) := by decide +kernel
theorem dX6_looked_25 : decode cX6_looked 25 = .ok (.iconst 1, 1) := by decide +kernel
theorem dX6_looked_26 : decode cX6_looked 26 = .ok (.invokevirtual 98, 3) := by decide +kernel
theorem dX6_looked_29 : decode cX6_looked 29 = .ok (.ireturn, 1) := by decide +kernel
set_option maxRecDepth 20000 in
theorem ggX6_chart_X6_isMonth : GoodIn wsX6_chart wsX6_isMonth := goodIn_r _ [6, 7, 8, 5, 9] (by decide +kernel) (by decide +kernel)
set_option maxRecDepth 20000 in
theorem gX6_chart_X6_isMonth : GoodIn wsX6_chart (va_wsS RX6 95 yX6_isMonth wsX6_isMonth) := goodIn_app (goodIn_of _ (by decide +kernel)) ggX6_chart_X6_isMonth
theorem dX6_chart_0 : decode cX6_chart 0 = .ok (.iload_n 1, 1) := by decide +kernel
theorem dX6_chart_1 : decode cX6_chart 1 = .ok (.invokestatic 95, 3) := by decide +kernel
theorem dX6_chart_4 : decode cX6_chart 4 = .ok (.ifCond .ne 5, 3) := by decide +kernel
theorem dX6_chart_7 : decode cX6_chart 7 = .ok (.iconst (-1), 1) := by decide +kernel
theorem dX6_chart_8 : decode cX6_chart 8 = .ok (.ireturn, 1) := by decide +kernel
theorem dX6_chart_9 : decode cX6_chart 9 = .ok (.aload_n 0, 1) := by decide +kernel
theorem dX6_chart_10 : decode cX6_chart 10 = .ok (.getfield 17, 3) := by decide +kernel
theorem dX6_chart_13 : decode cX6_chart 13 = .ok (.iload_n 1, 1) := by decide +kernel
theorem dX6_chart_14 : decode cX6_chart 14 = .ok (.baload, 1) := by decide +kernel
theorem dX6_chart_15 : decode cX6_chart 15 = .ok (.ifCond .eq 7, 3) := by decide +kernel
theorem dX6_chart_18 : decode cX6_chart 18 = .ok (.iconst 1, 1) := by decide +kernel
theorem dX6_chart_19 : decode cX6_chart 19 = .ok (.goto 4, 3) := by decide +kernel
theorem dX6_chart_22 : decode cX6_chart 22 = .ok (.iconst 0, 1) := by decide +kernel
theorem dX6_chart_23 : decode cX6_chart 23 = .ok (.istore_n 2, 1) := by decide +kernel
theorem dX6_chart_24 : decode cX6_chart 24 = .ok (.aload_n 0, 1) := by decide +kernel
theorem dX6_chart_25 : decode cX6_chart 25 = .ok (.getfield 17, 3) := by decide +kernel
theorem dX6_chart_28 : decode cX6_chart 28 = .ok (.iload_n 1, 1) := by decide +kernel
theorem dX6_chart_29 : decode cX6_chart 29 = .ok (.iconst 1, 1) := by decide +kernel
theorem dX6_chart_30 : decode cX6_chart 30 = .ok (.bastore, 1) := by decide +kernel
theorem dX6_chart_31 : decode cX6_chart 31 = .ok (.iconst 0, 1) := by decide +kernel
theorem dX6_chart_32 : decode cX6_chart 32 = .ok (.istore_n 3, 1) := by decide +kernel
theorem dX6_chart_33 : decode cX6_chart 33 = .ok (.iload_n 3, 1) := by decide +kernel
theorem dX6_chart_34 : decode cX6_chart 34 = .ok (.sipush 160, 3) := by decide +kernel
theorem dX6_chart_37 : decode cX6_chart 37 = .ok (.if_icmp .ge 22, 3) := by decide +kernel
theorem dX6_chart_40 : decode cX6_chart 40 = .ok (.aload_n 0, 1) := by decide +kernel
theorem dX6_chart_41 : decode cX6_chart 41 = .ok (.getfield 20, 3) := by decide +kernel
theorem dX6_chart_44 : decode cX6_chart 44 = .ok (.sipush 160, 3) := by decide +kernel
theorem dX6_chart_47 : decode cX6_chart 47 = .ok (.iload_n 1, 1) := by decide +kernel
theorem dX6_chart_48 : decode cX6_chart 48 = .ok (.imul, 1) := by decide +kernel
theorem dX6_chart_49 : decode cX6_chart 49 = .ok (.iload_n 3, 1) := by decide +kernel
theorem dX6_chart_50 : decode cX6_chart 50 = .ok (.iadd, 1) := by decide +kernel
theorem dX6_chart_51 : decode cX6_chart 51 = .ok (.iconst 0, 1) := by decide +kernel
theorem dX6_chart_52 : decode cX6_chart 52 = .ok (.iastore, 1) := by decide +kernel
theorem dX6_chart_53 : decode cX6_chart 53 = .ok (.iinc 3 1, 3) := by decide +kernel
theorem dX6_chart_56 : decode cX6_chart 56 = .ok (.goto (-23), 3) := by decide +kernel
theorem dX6_chart_59 : decode cX6_chart 59 = .ok (.iload_n 2, 1) := by decide +kernel
theorem dX6_chart_60 : decode cX6_chart 60 = .ok (.ireturn, 1) := by decide +kernel
set_option maxRecDepth 20000 in
theorem ggX6_wind_X6_looked : GoodIn wsX6_wind wsX6_looked := goodIn_r _ [6, 7, 8, 9, 5, 10, 11, 12, 13, 14, 15, 16, 17, 18, 19, 23, 24, 25, 26, 27, 28, 29, 30, 31, 32, 33, 34, 35, 36, 37, 38, 39, 40, 41, 42, 43, 44, 45, 46, 47, 48, 49, 50, 51, 52, 53] (by decide +kernel) (by decide +kernel)
set_option maxRecDepth 20000 in
theorem gX6_wind_X6_looked : GoodIn wsX6_wind (wsV RX6 102 RX6 yX6_looked wsX6_looked) := goodIn_app (goodIn_of _ (by decide +kernel)) ggX6_wind_X6_looked
set_option maxRecDepth 20000 in
theorem ggX6_wind_X6_isCell : GoodIn wsX6_wind wsX6_isCell := goodIn_r _ [22, 11, 12, 5, 13] (by decide +kernel) (by decide +kernel)
set_option maxRecDepth 20000 in
theorem gX6_wind_X6_isCell : GoodIn wsX6_wind (va_wsS RX6 91 yX6_isCell wsX6_isCell) := goodIn_app (goodIn_of _ (by decide +kernel)) ggX6_wind_X6_isCell
set_option maxRecDepth 20000 in
theorem ggX6_wind_X6_meets : GoodIn wsX6_wind wsX6_meets := goodIn_r _ [17, 18, 19, 23, 24, 25, 26, 27, 28, 29, 30, 31, 32, 33, 34, 35, 36, 37, 38, 39, 40, 41, 42, 43, 44, 45, 46, 47, 48, 49, 50, 51, 52, 53] (by decide +kernel) (by decide +kernel)
set_option maxRecDepth 20000 in
theorem gX6_wind_X6_meets : GoodIn wsX6_wind (wsV RX6 98 RX6 yX6_meets wsX6_meets) := goodIn_app (goodIn_of _ (by decide +kernel)) ggX6_wind_X6_meets
theorem dX6_wind_0 : decode cX6_wind 0 = .ok (.aload_n 0, 1) := by decide +kernel
theorem dX6_wind_1 : decode cX6_wind 1 = .ok (.iload_n 1, 1) := by decide +kernel
theorem dX6_wind_2 : decode cX6_wind 2 = .ok (.invokevirtual 102, 3) := by decide +kernel
theorem dX6_wind_5 : decode cX6_wind 5 = .ok (.istore 4, 2) := by decide +kernel
theorem dX6_wind_7 : decode cX6_wind 7 = .ok (.iload 4, 2) := by decide +kernel
theorem dX6_wind_9 : decode cX6_wind 9 = .ok (.ifCond .ge 6, 3) := by decide +kernel
theorem dX6_wind_12 : decode cX6_wind 12 = .ok (.iload 4, 2) := by decide +kernel
theorem dX6_wind_14 : decode cX6_wind 14 = .ok (.ireturn, 1) := by decide +kernel
theorem dX6_wind_15 : decode cX6_wind 15 = .ok (.iload_n 2, 1) := by decide +kernel
end
section
theorem dX6_wind_16 : decode cX6_wind 16 = .ok (.invokestatic 91, 3) := by decide +kernel
theorem dX6_wind_19 : decode cX6_wind 19 = .ok (.ifCond .ne 9, 3) := by decide +kernel
theorem dX6_wind_22 : decode cX6_wind 22 = .ok (.aload_n 0, 1) := by decide +kernel
theorem dX6_wind_23 : decode cX6_wind 23 = .ok (.iconst 2, 1) := by decide +kernel
theorem dX6_wind_24 : decode cX6_wind 24 = .ok (.invokevirtual 98, 3) := by decide +kernel
theorem dX6_wind_27 : decode cX6_wind 27 = .ok (.ireturn, 1) := by decide +kernel
theorem dX6_wind_28 : decode cX6_wind 28 = .ok (.aload_n 0, 1) := by decide +kernel
theorem dX6_wind_29 : decode cX6_wind 29 = .ok (.getfield 20, 3) := by decide +kernel
theorem dX6_wind_32 : decode cX6_wind 32 = .ok (.sipush 160, 3) := by decide +kernel
theorem dX6_wind_35 : decode cX6_wind 35 = .ok (.iload_n 1, 1) := by decide +kernel
theorem dX6_wind_36 : decode cX6_wind 36 = .ok (.imul, 1) := by decide +kernel
theorem dX6_wind_37 : decode cX6_wind 37 = .ok (.iload_n 2, 1) := by decide +kernel
theorem dX6_wind_38 : decode cX6_wind 38 = .ok (.iadd, 1) := by decide +kernel
theorem dX6_wind_39 : decode cX6_wind 39 = .ok (.iaload, 1) := by decide +kernel
theorem dX6_wind_40 : decode cX6_wind 40 = .ok (.istore 5, 2) := by decide +kernel
theorem dX6_wind_42 : decode cX6_wind 42 = .ok (.aload_n 0, 1) := by decide +kernel
theorem dX6_wind_43 : decode cX6_wind 43 = .ok (.getfield 20, 3) := by decide +kernel
theorem dX6_wind_46 : decode cX6_wind 46 = .ok (.sipush 160, 3) := by decide +kernel
theorem dX6_wind_49 : decode cX6_wind 49 = .ok (.iload_n 1, 1) := by decide +kernel
theorem dX6_wind_50 : decode cX6_wind 50 = .ok (.imul, 1) := by decide +kernel
theorem dX6_wind_51 : decode cX6_wind 51 = .ok (.iload_n 2, 1) := by decide +kernel
theorem dX6_wind_52 : decode cX6_wind 52 = .ok (.iadd, 1) := by decide +kernel
theorem dX6_wind_53 : decode cX6_wind 53 = .ok (.iload_n 3, 1) := by decide +kernel
theorem dX6_wind_54 : decode cX6_wind 54 = .ok (.i2b, 1) := by decide +kernel
theorem dX6_wind_55 : decode cX6_wind 55 = .ok (.iastore, 1) := by decide +kernel
theorem dX6_wind_56 : decode cX6_wind 56 = .ok (.iload 5, 2) := by decide +kernel
theorem dX6_wind_58 : decode cX6_wind 58 = .ok (.sipush 1000, 3) := by decide +kernel
theorem dX6_wind_61 : decode cX6_wind 61 = .ok (.iadd, 1) := by decide +kernel
theorem dX6_wind_62 : decode cX6_wind 62 = .ok (.ireturn, 1) := by decide +kernel
set_option maxRecDepth 20000 in
theorem ggX6_tear_X6_looked : GoodIn wsX6_tear wsX6_looked := goodIn_r _ [6, 1, 7, 8, 5, 9, 10, 11, 12, 13, 14, 15, 16, 17, 18, 19, 20, 21, 22, 23, 24, 25, 26, 27, 28, 29, 30, 31, 32, 33, 34, 35, 36, 37, 38, 39, 40, 41, 42, 43, 44, 45, 46, 47, 48, 49] (by decide +kernel) (by decide +kernel)
set_option maxRecDepth 20000 in
theorem gX6_tear_X6_looked : GoodIn wsX6_tear (wsV RX6 102 RX6 yX6_looked wsX6_looked) := goodIn_app (goodIn_of _ (by decide +kernel)) ggX6_tear_X6_looked
theorem dX6_tear_0 : decode cX6_tear 0 = .ok (.aload_n 0, 1) := by decide +kernel
theorem dX6_tear_1 : decode cX6_tear 1 = .ok (.iload_n 1, 1) := by decide +kernel
theorem dX6_tear_2 : decode cX6_tear 2 = .ok (.invokevirtual 102, 3) := by decide +kernel
theorem dX6_tear_5 : decode cX6_tear 5 = .ok (.istore_n 2, 1) := by decide +kernel
theorem dX6_tear_6 : decode cX6_tear 6 = .ok (.iload_n 2, 1) := by decide +kernel
theorem dX6_tear_7 : decode cX6_tear 7 = .ok (.ifCond .ge 5, 3) := by decide +kernel
theorem dX6_tear_10 : decode cX6_tear 10 = .ok (.iload_n 2, 1) := by decide +kernel
theorem dX6_tear_11 : decode cX6_tear 11 = .ok (.ireturn, 1) := by decide +kernel
theorem dX6_tear_12 : decode cX6_tear 12 = .ok (.aload_n 0, 1) := by decide +kernel
theorem dX6_tear_13 : decode cX6_tear 13 = .ok (.getfield 17, 3) := by decide +kernel
theorem dX6_tear_16 : decode cX6_tear 16 = .ok (.iload_n 1, 1) := by decide +kernel
theorem dX6_tear_17 : decode cX6_tear 17 = .ok (.iconst 0, 1) := by decide +kernel
theorem dX6_tear_18 : decode cX6_tear 18 = .ok (.bastore, 1) := by decide +kernel
theorem dX6_tear_19 : decode cX6_tear 19 = .ok (.iconst 1, 1) := by decide +kernel
theorem dX6_tear_20 : decode cX6_tear 20 = .ok (.ireturn, 1) := by decide +kernel
set_option maxRecDepth 20000 in
theorem ggX6_copy_X6_isMonth : GoodIn wsX6_copy wsX6_isMonth := goodIn_r _ [8, 9, 10, 7, 11] (by decide +kernel) (by decide +kernel)
set_option maxRecDepth 20000 in
theorem gX6_copy_X6_isMonth : GoodIn wsX6_copy (va_wsS RX6 95 yX6_isMonth wsX6_isMonth) := goodIn_app (goodIn_of _ (by decide +kernel)) ggX6_copy_X6_isMonth
set_option maxRecDepth 20000 in
theorem ggX6_copy_X6_meets : GoodIn wsX6_copy wsX6_meets := goodIn_r _ [15, 16, 17, 18, 19, 20, 21, 22, 23, 24, 25, 26, 27, 28, 29, 30, 31, 32, 33, 34, 35, 36, 37, 38, 39, 40, 41, 42, 43, 44, 45, 46, 47, 48] (by decide +kernel) (by decide +kernel)
set_option maxRecDepth 20000 in
theorem gX6_copy_X6_meets : GoodIn wsX6_copy (wsV RX6 98 RX6 yX6_meets wsX6_meets) := goodIn_app (goodIn_of _ (by decide +kernel)) ggX6_copy_X6_meets
theorem dX6_copy_0 : decode cX6_copy 0 = .ok (.iload_n 1, 1) := by decide +kernel
theorem dX6_copy_1 : decode cX6_copy 1 = .ok (.invokestatic 95, 3) := by decide +kernel
theorem dX6_copy_4 : decode cX6_copy 4 = .ok (.ifCond .eq 10, 3) := by decide +kernel
theorem dX6_copy_7 : decode cX6_copy 7 = .ok (.iload_n 3, 1) := by decide +kernel
theorem dX6_copy_8 : decode cX6_copy 8 = .ok (.invokestatic 95, 3) := by decide +kernel
theorem dX6_copy_11 : decode cX6_copy 11 = .ok (.ifCond .ne 5, 3) := by decide +kernel
theorem dX6_copy_14 : decode cX6_copy 14 = .ok (.iconst (-1), 1) := by decide +kernel
theorem dX6_copy_15 : decode cX6_copy 15 = .ok (.ireturn, 1) := by decide +kernel
theorem dX6_copy_16 : decode cX6_copy 16 = .ok (.iload 5, 2) := by decide +kernel
theorem dX6_copy_18 : decode cX6_copy 18 = .ok (.ifCond .ge 9, 3) := by decide +kernel
theorem dX6_copy_21 : decode cX6_copy 21 = .ok (.aload_n 0, 1) := by decide +kernel
theorem dX6_copy_22 : decode cX6_copy 22 = .ok (.iconst 5, 1) := by decide +kernel
theorem dX6_copy_23 : decode cX6_copy 23 = .ok (.invokevirtual 98, 3) := by decide +kernel
theorem dX6_copy_26 : decode cX6_copy 26 = .ok (.ireturn, 1) := by decide +kernel
theorem dX6_copy_27 : decode cX6_copy 27 = .ok (.aload_n 0, 1) := by decide +kernel
theorem dX6_copy_28 : decode cX6_copy 28 = .ok (.getfield 17, 3) := by decide +kernel
theorem dX6_copy_31 : decode cX6_copy 31 = .ok (.iload_n 1, 1) := by decide +kernel
theorem dX6_copy_32 : decode cX6_copy 32 = .ok (.baload, 1) := by decide +kernel
theorem dX6_copy_33 : decode cX6_copy 33 = .ok (.ifCond .eq 12, 3) := by decide +kernel
theorem dX6_copy_36 : decode cX6_copy 36 = .ok (.aload_n 0, 1) := by decide +kernel
theorem dX6_copy_37 : decode cX6_copy 37 = .ok (.getfield 17, 3) := by decide +kernel
theorem dX6_copy_40 : decode cX6_copy 40 = .ok (.iload_n 3, 1) := by decide +kernel
theorem dX6_copy_41 : decode cX6_copy 41 = .ok (.baload, 1) := by decide +kernel
theorem dX6_copy_42 : decode cX6_copy 42 = .ok (.ifCond .ne 9, 3) := by decide +kernel
theorem dX6_copy_45 : decode cX6_copy 45 = .ok (.aload_n 0, 1) := by decide +kernel
theorem dX6_copy_46 : decode cX6_copy 46 = .ok (.iconst 1, 1) := by decide +kernel
theorem dX6_copy_47 : decode cX6_copy 47 = .ok (.invokevirtual 98, 3) := by decide +kernel
theorem dX6_copy_50 : decode cX6_copy 50 = .ok (.ireturn, 1) := by decide +kernel
theorem dX6_copy_51 : decode cX6_copy 51 = .ok (.iload_n 2, 1) := by decide +kernel
theorem dX6_copy_52 : decode cX6_copy 52 = .ok (.ifCond .lt 35, 3) := by decide +kernel
theorem dX6_copy_55 : decode cX6_copy 55 = .ok (.iload 4, 2) := by decide +kernel
theorem dX6_copy_57 : decode cX6_copy 57 = .ok (.ifCond .lt 30, 3) := by decide +kernel
theorem dX6_copy_60 : decode cX6_copy 60 = .ok (.iload_n 2, 1) := by decide +kernel
theorem dX6_copy_61 : decode cX6_copy 61 = .ok (.i2l, 1) := by decide +kernel
theorem dX6_copy_62 : decode cX6_copy 62 = .ok (.iload 5, 2) := by decide +kernel
theorem dX6_copy_64 : decode cX6_copy 64 = .ok (.i2l, 1) := by decide +kernel
theorem dX6_copy_65 : decode cX6_copy 65 = .ok (.ladd, 1) := by decide +kernel
theorem dX6_copy_66 : decode cX6_copy 66 = .ok (.ldc2_w 105, 3) := by decide +kernel
theorem dX6_copy_69 : decode cX6_copy 69 = .ok (.lcmp, 1) := by decide +kernel
theorem dX6_copy_70 : decode cX6_copy 70 = .ok (.ifCond .gt 17, 3) := by decide +kernel
theorem dX6_copy_73 : decode cX6_copy 73 = .ok (.iload 4, 2) := by decide +kernel
theorem dX6_copy_75 : decode cX6_copy 75 = .ok (.i2l, 1) := by decide +kernel
theorem dX6_copy_76 : decode cX6_copy 76 = .ok (.iload 5, 2) := by decide +kernel
theorem dX6_copy_78 : decode cX6_copy 78 = .ok (.i2l, 1) := by decide +kernel
theorem dX6_copy_79 : decode cX6_copy 79 = .ok (.ladd, 1) := by decide +kernel
theorem dX6_copy_80 : decode cX6_copy 80 = .ok (.ldc2_w 105, 3) := by decide +kernel
theorem dX6_copy_83 : decode cX6_copy 83 = .ok (.lcmp, 1) := by decide +kernel
theorem dX6_copy_84 : decode cX6_copy 84 = .ok (.ifCond .le 9, 3) := by decide +kernel
theorem dX6_copy_87 : decode cX6_copy 87 = .ok (.aload_n 0, 1) := by decide +kernel
theorem dX6_copy_88 : decode cX6_copy 88 = .ok (.iconst 2, 1) := by decide +kernel
theorem dX6_copy_89 : decode cX6_copy 89 = .ok (.invokevirtual 98, 3) := by decide +kernel
theorem dX6_copy_92 : decode cX6_copy 92 = .ok (.ireturn, 1) := by decide +kernel
theorem dX6_copy_93 : decode cX6_copy 93 = .ok (.iconst 0, 1) := by decide +kernel
theorem dX6_copy_94 : decode cX6_copy 94 = .ok (.istore 6, 2) := by decide +kernel
theorem dX6_copy_96 : decode cX6_copy 96 = .ok (.iload 6, 2) := by decide +kernel
theorem dX6_copy_98 : decode cX6_copy 98 = .ok (.iload 5, 2) := by decide +kernel
theorem dX6_copy_100 : decode cX6_copy 100 = .ok (.if_icmp .ge 31, 3) := by decide +kernel
theorem dX6_copy_103 : decode cX6_copy 103 = .ok (.aload_n 0, 1) := by decide +kernel
theorem dX6_copy_104 : decode cX6_copy 104 = .ok (.getfield 23, 3) := by decide +kernel
theorem dX6_copy_107 : decode cX6_copy 107 = .ok (.iload 6, 2) := by decide +kernel
theorem dX6_copy_109 : decode cX6_copy 109 = .ok (.aload_n 0, 1) := by decide +kernel
theorem dX6_copy_110 : decode cX6_copy 110 = .ok (.getfield 20, 3) := by decide +kernel
theorem dX6_copy_113 : decode cX6_copy 113 = .ok (.sipush 160, 3) := by decide +kernel
theorem dX6_copy_116 : decode cX6_copy 116 = .ok (.iload_n 1, 1) := by decide +kernel
theorem dX6_copy_117 : decode cX6_copy 117 = .ok (.imul, 1) := by decide +kernel
theorem dX6_copy_118 : decode cX6_copy 118 = .ok (.iload_n 2, 1) := by decide +kernel
theorem dX6_copy_119 : decode cX6_copy 119 = .ok (.iadd, 1) := by decide +kernel
theorem dX6_copy_120 : decode cX6_copy 120 = .ok (.iload 6, 2) := by decide +kernel
theorem dX6_copy_122 : decode cX6_copy 122 = .ok (.iadd, 1) := by decide +kernel
theorem dX6_copy_123 : decode cX6_copy 123 = .ok (.iaload, 1) := by decide +kernel
theorem dX6_copy_124 : decode cX6_copy 124 = .ok (.iastore, 1) := by decide +kernel
theorem dX6_copy_125 : decode cX6_copy 125 = .ok (.iinc 6 1, 3) := by decide +kernel
theorem dX6_copy_128 : decode cX6_copy 128 = .ok (.goto (-32), 3) := by decide +kernel
theorem dX6_copy_131 : decode cX6_copy 131 = .ok (.iconst 0, 1) := by decide +kernel
theorem dX6_copy_132 : decode cX6_copy 132 = .ok (.istore 6, 2) := by decide +kernel
theorem dX6_copy_134 : decode cX6_copy 134 = .ok (.iload 6, 2) := by decide +kernel
theorem dX6_copy_136 : decode cX6_copy 136 = .ok (.iload 5, 2) := by decide +kernel
theorem dX6_copy_138 : decode cX6_copy 138 = .ok (.if_icmp .ge 32, 3) := by decide +kernel
theorem dX6_copy_141 : decode cX6_copy 141 = .ok (.aload_n 0, 1) := by decide +kernel
theorem dX6_copy_142 : decode cX6_copy 142 = .ok (.getfield 20, 3) := by decide +kernel
theorem dX6_copy_145 : decode cX6_copy 145 = .ok (.sipush 160, 3) := by decide +kernel
theorem dX6_copy_148 : decode cX6_copy 148 = .ok (.iload_n 3, 1) := by decide +kernel
theorem dX6_copy_149 : decode cX6_copy 149 = .ok (.imul, 1) := by decide +kernel
theorem dX6_copy_150 : decode cX6_copy 150 = .ok (.iload 4, 2) := by decide +kernel
theorem dX6_copy_152 : decode cX6_copy 152 = .ok (.iadd, 1) := by decide +kernel
theorem dX6_copy_153 : decode cX6_copy 153 = .ok (.iload 6, 2) := by decide +kernel
theorem dX6_copy_155 : decode cX6_copy 155 = .ok (.iadd, 1) := by decide +kernel
theorem dX6_copy_156 : decode cX6_copy 156 = .ok (.aload_n 0, 1) := by decide +kernel
theorem dX6_copy_157 : decode cX6_copy 157 = .ok (.getfield 23, 3) := by decide +kernel
theorem dX6_copy_160 : decode cX6_copy 160 = .ok (.iload 6, 2) := by decide +kernel
theorem dX6_copy_162 : decode cX6_copy 162 = .ok (.iaload, 1) := by decide +kernel
theorem dX6_copy_163 : decode cX6_copy 163 = .ok (.iastore, 1) := by decide +kernel
theorem dX6_copy_164 : decode cX6_copy 164 = .ok (.iinc 6 1, 3) := by decide +kernel
theorem dX6_copy_167 : decode cX6_copy 167 = .ok (.goto (-33), 3) := by decide +kernel
theorem dX6_copy_170 : decode cX6_copy 170 = .ok (.iconst 1, 1) := by decide +kernel
theorem dX6_copy_171 : decode cX6_copy 171 = .ok (.ireturn, 1) := by decide +kernel
set_option maxRecDepth 20000 in
theorem ggX6_strength_X6_in : GoodIn wsX6_strength wsX6_in := goodIn_r _ [4] (by decide +kernel) (by decide +kernel)
set_option maxRecDepth 20000 in
theorem gX6_strength_X6_in : GoodIn wsX6_strength (va_wsS RX6 87 yX6_in wsX6_in) := goodIn_app (goodIn_of _ (by decide +kernel)) ggX6_strength_X6_in
theorem dX6_strength_0 : decode cX6_strength 0 = .ok (.iload_n 0, 1) := by decide +kernel
theorem dX6_strength_1 : decode cX6_strength 1 = .ok (.iconst 0, 1) := by decide +kernel
theorem dX6_strength_2 : decode cX6_strength 2 = .ok (.bipush 79, 2) := by decide +kernel
theorem dX6_strength_4 : decode cX6_strength 4 = .ok (.invokestatic 87, 3) := by decide +kernel
theorem dX6_strength_7 : decode cX6_strength 7 = .ok (.ifCond .eq 10, 3) := by decide +kernel
theorem dX6_strength_10 : decode cX6_strength 10 = .ok (.iload_n 0, 1) := by decide +kernel
theorem dX6_strength_11 : decode cX6_strength 11 = .ok (.bipush 10, 2) := by decide +kernel
theorem dX6_strength_13 : decode cX6_strength 13 = .ok (.irem, 1) := by decide +kernel
theorem dX6_strength_14 : decode cX6_strength 14 = .ok (.goto 4, 3) := by decide +kernel
theorem dX6_strength_17 : decode cX6_strength 17 = .ok (.iconst 0, 1) := by decide +kernel
theorem dX6_strength_18 : decode cX6_strength 18 = .ok (.ireturn, 1) := by decide +kernel
set_option maxRecDepth 20000 in
theorem ggX6_mean_X6_looked : GoodIn wsX6_mean wsX6_looked := goodIn_r _ [6, 7, 8, 9, 5, 10, 11, 12, 13, 14, 15, 16, 17, 18, 19, 23, 24, 25, 26, 27, 28, 29, 30, 31, 32, 33, 34, 35, 36, 37, 38, 39, 40, 41, 42, 43, 44, 45, 46, 47, 48, 49, 50, 51, 52, 53] (by decide +kernel) (by decide +kernel)
set_option maxRecDepth 20000 in
theorem gX6_mean_X6_looked : GoodIn wsX6_mean (wsV RX6 102 RX6 yX6_looked wsX6_looked) := goodIn_app (goodIn_of _ (by decide +kernel)) ggX6_mean_X6_looked
set_option maxRecDepth 20000 in
theorem ggX6_mean_X6_strength : GoodIn wsX6_mean wsX6_strength := goodIn_r _ [22, 11, 12, 5, 13] (by decide +kernel) (by decide +kernel)
set_option maxRecDepth 20000 in
theorem gX6_mean_X6_strength : GoodIn wsX6_mean (va_wsS RX6 107 yX6_strength wsX6_strength) := goodIn_app (goodIn_of _ (by decide +kernel)) ggX6_mean_X6_strength
theorem dX6_mean_0 : decode cX6_mean 0 = .ok (.aload_n 0, 1) := by decide +kernel
theorem dX6_mean_1 : decode cX6_mean 1 = .ok (.iload_n 1, 1) := by decide +kernel
theorem dX6_mean_2 : decode cX6_mean 2 = .ok (.invokevirtual 102, 3) := by decide +kernel
theorem dX6_mean_5 : decode cX6_mean 5 = .ok (.istore_n 2, 1) := by decide +kernel
theorem dX6_mean_6 : decode cX6_mean 6 = .ok (.iload_n 2, 1) := by decide +kernel
theorem dX6_mean_7 : decode cX6_mean 7 = .ok (.ifCond .ge 5, 3) := by decide +kernel
theorem dX6_mean_10 : decode cX6_mean 10 = .ok (.iload_n 2, 1) := by decide +kernel
theorem dX6_mean_11 : decode cX6_mean 11 = .ok (.ireturn, 1) := by decide +kernel
theorem dX6_mean_12 : decode cX6_mean 12 = .ok (.iconst 0, 1) := by decide +kernel
theorem dX6_mean_13 : decode cX6_mean 13 = .ok (.istore_n 3, 1) := by decide +kernel
theorem dX6_mean_14 : decode cX6_mean 14 = .ok (.iconst 0, 1) := by decide +kernel
theorem dX6_mean_15 : decode cX6_mean 15 = .ok (.istore 4, 2) := by decide +kernel
theorem dX6_mean_17 : decode cX6_mean 17 = .ok (.iload 4, 2) := by decide +kernel
theorem dX6_mean_19 : decode cX6_mean 19 = .ok (.sipush 160, 3) := by decide +kernel
theorem dX6_mean_22 : decode cX6_mean 22 = .ok (.if_icmp .ge 28, 3) := by decide +kernel
theorem dX6_mean_25 : decode cX6_mean 25 = .ok (.iload_n 3, 1) := by decide +kernel
theorem dX6_mean_26 : decode cX6_mean 26 = .ok (.aload_n 0, 1) := by decide +kernel
theorem dX6_mean_27 : decode cX6_mean 27 = .ok (.getfield 20, 3) := by decide +kernel
theorem dX6_mean_30 : decode cX6_mean 30 = .ok (.sipush 160, 3) := by decide +kernel
theorem dX6_mean_33 : decode cX6_mean 33 = .ok (.iload_n 1, 1) := by decide +kernel
theorem dX6_mean_34 : decode cX6_mean 34 = .ok (.imul, 1) := by decide +kernel
theorem dX6_mean_35 : decode cX6_mean 35 = .ok (.iload 4, 2) := by decide +kernel
theorem dX6_mean_37 : decode cX6_mean 37 = .ok (.iadd, 1) := by decide +kernel
theorem dX6_mean_38 : decode cX6_mean 38 = .ok (.iaload, 1) := by decide +kernel
theorem dX6_mean_39 : decode cX6_mean 39 = .ok (.invokestatic 107, 3) := by decide +kernel
theorem dX6_mean_42 : decode cX6_mean 42 = .ok (.iadd, 1) := by decide +kernel
theorem dX6_mean_43 : decode cX6_mean 43 = .ok (.istore_n 3, 1) := by decide +kernel
theorem dX6_mean_44 : decode cX6_mean 44 = .ok (.iinc 4 1, 3) := by decide +kernel
theorem dX6_mean_47 : decode cX6_mean 47 = .ok (.goto (-30), 3) := by decide +kernel
theorem dX6_mean_50 : decode cX6_mean 50 = .ok (.iload_n 3, 1) := by decide +kernel
theorem dX6_mean_51 : decode cX6_mean 51 = .ok (.sipush 160, 3) := by decide +kernel
theorem dX6_mean_54 : decode cX6_mean 54 = .ok (.idiv, 1) := by decide +kernel
theorem dX6_mean_55 : decode cX6_mean 55 = .ok (.ireturn, 1) := by decide +kernel
set_option maxRecDepth 20000 in
theorem ggX6_windAt_X6_in : GoodIn wsX6_windAt wsX6_in := goodIn_r _ [6] (by decide +kernel) (by decide +kernel)
set_option maxRecDepth 20000 in
theorem gX6_windAt_X6_in : GoodIn wsX6_windAt (va_wsS RX6 87 yX6_in wsX6_in) := goodIn_app (goodIn_of _ (by decide +kernel)) ggX6_windAt_X6_in
theorem dX6_windAt_0 : decode cX6_windAt 0 = .ok (.iload_n 2, 1) := by decide +kernel
theorem dX6_windAt_1 : decode cX6_windAt 1 = .ok (.sipush 720, 3) := by decide +kernel
theorem dX6_windAt_4 : decode cX6_windAt 4 = .ok (.idiv, 1) := by decide +kernel
theorem dX6_windAt_5 : decode cX6_windAt 5 = .ok (.bipush 12, 2) := by decide +kernel
theorem dX6_windAt_7 : decode cX6_windAt 7 = .ok (.irem, 1) := by decide +kernel
theorem dX6_windAt_8 : decode cX6_windAt 8 = .ok (.istore_n 3, 1) := by decide +kernel
theorem dX6_windAt_9 : decode cX6_windAt 9 = .ok (.aload_n 0, 1) := by decide +kernel
theorem dX6_windAt_10 : decode cX6_windAt 10 = .ok (.getfield 17, 3) := by decide +kernel
theorem dX6_windAt_13 : decode cX6_windAt 13 = .ok (.iload_n 3, 1) := by decide +kernel
theorem dX6_windAt_14 : decode cX6_windAt 14 = .ok (.baload, 1) := by decide +kernel
theorem dX6_windAt_15 : decode cX6_windAt 15 = .ok (.ifCond .eq 18, 3) := by decide +kernel
theorem dX6_windAt_18 : decode cX6_windAt 18 = .ok (.aload_n 0, 1) := by decide +kernel
theorem dX6_windAt_19 : decode cX6_windAt 19 = .ok (.getfield 20, 3) := by decide +kernel
theorem dX6_windAt_22 : decode cX6_windAt 22 = .ok (.sipush 160, 3) := by decide +kernel
theorem dX6_windAt_25 : decode cX6_windAt 25 = .ok (.iload_n 3, 1) := by decide +kernel
theorem dX6_windAt_26 : decode cX6_windAt 26 = .ok (.imul, 1) := by decide +kernel
theorem dX6_windAt_27 : decode cX6_windAt 27 = .ok (.iload_n 1, 1) := by decide +kernel
theorem dX6_windAt_28 : decode cX6_windAt 28 = .ok (.iadd, 1) := by decide +kernel
theorem dX6_windAt_29 : decode cX6_windAt 29 = .ok (.iaload, 1) := by decide +kernel
theorem dX6_windAt_30 : decode cX6_windAt 30 = .ok (.goto 4, 3) := by decide +kernel
theorem dX6_windAt_33 : decode cX6_windAt 33 = .ok (.iconst 0, 1) := by decide +kernel
theorem dX6_windAt_34 : decode cX6_windAt 34 = .ok (.istore 4, 2) := by decide +kernel
theorem dX6_windAt_36 : decode cX6_windAt 36 = .ok (.iload 4, 2) := by decide +kernel
theorem dX6_windAt_38 : decode cX6_windAt 38 = .ok (.iconst 0, 1) := by decide +kernel
theorem dX6_windAt_39 : decode cX6_windAt 39 = .ok (.bipush 79, 2) := by decide +kernel
theorem dX6_windAt_41 : decode cX6_windAt 41 = .ok (.invokestatic 87, 3) := by decide +kernel
theorem dX6_windAt_44 : decode cX6_windAt 44 = .ok (.ifCond .eq 8, 3) := by decide +kernel
theorem dX6_windAt_47 : decode cX6_windAt 47 = .ok (.iload 4, 2) := by decide +kernel
theorem dX6_windAt_49 : decode cX6_windAt 49 = .ok (.goto 4, 3) := by decide +kernel
theorem dX6_windAt_52 : decode cX6_windAt 52 = .ok (.iconst 0, 1) := by decide +kernel
theorem dX6_windAt_53 : decode cX6_windAt 53 = .ok (.ireturn, 1) := by decide +kernel
set_option maxRecDepth 20000 in
theorem ggX6_nextCell_X6_in : GoodIn wsX6_nextCell wsX6_in := goodIn_r _ [5] (by decide +kernel) (by decide +kernel)
set_option maxRecDepth 20000 in
theorem gX6_nextCell_X6_in : GoodIn wsX6_nextCell (va_wsS RX6 87 yX6_in wsX6_in) := goodIn_app (goodIn_of _ (by decide +kernel)) ggX6_nextCell_X6_in
theorem dX6_nextCell_0 : decode cX6_nextCell 0 = .ok (.iload_n 1, 1) := by decide +kernel
theorem dX6_nextCell_1 : decode cX6_nextCell 1 = .ok (.bipush 16, 2) := by decide +kernel
theorem dX6_nextCell_3 : decode cX6_nextCell 3 = .ok (.irem, 1) := by decide +kernel
theorem dX6_nextCell_4 : decode cX6_nextCell 4 = .ok (.iload_n 2, 1) := by decide +kernel
theorem dX6_nextCell_5 : decode cX6_nextCell 5 = .ok (.iconst 1, 1) := by decide +kernel
theorem dX6_nextCell_6 : decode cX6_nextCell 6 = .ok (.iconst 3, 1) := by decide +kernel
theorem dX6_nextCell_7 : decode cX6_nextCell 7 = .ok (.invokestatic 87, 3) := by decide +kernel
theorem dX6_nextCell_10 : decode cX6_nextCell 10 = .ok (.ifCond .eq 7, 3) := by decide +kernel
theorem dX6_nextCell_13 : decode cX6_nextCell 13 = .ok (.iconst 1, 1) := by decide +kernel
theorem dX6_nextCell_14 : decode cX6_nextCell 14 = .ok (.goto 18, 3) := by decide +kernel
theorem dX6_nextCell_17 : decode cX6_nextCell 17 = .ok (.iload_n 2, 1) := by decide +kernel
theorem dX6_nextCell_18 : decode cX6_nextCell 18 = .ok (.iconst 5, 1) := by decide +kernel
theorem dX6_nextCell_19 : decode cX6_nextCell 19 = .ok (.bipush 7, 2) := by decide +kernel
theorem dX6_nextCell_21 : decode cX6_nextCell 21 = .ok (.invokestatic 87, 3) := by decide +kernel
theorem dX6_nextCell_24 : decode cX6_nextCell 24 = .ok (.ifCond .eq 7, 3) := by decide +kernel
theorem dX6_nextCell_27 : decode cX6_nextCell 27 = .ok (.iconst (-1), 1) := by decide +kernel
theorem dX6_nextCell_28 : decode cX6_nextCell 28 = .ok (.goto 4, 3) := by decide +kernel
theorem dX6_nextCell_31 : decode cX6_nextCell 31 = .ok (.iconst 0, 1) := by decide +kernel
theorem dX6_nextCell_32 : decode cX6_nextCell 32 = .ok (.iadd, 1) := by decide +kernel
theorem dX6_nextCell_33 : decode cX6_nextCell 33 = .ok (.istore_n 3, 1) := by decide +kernel
theorem dX6_nextCell_34 : decode cX6_nextCell 34 = .ok (.iload_n 1, 1) := by decide +kernel
theorem dX6_nextCell_35 : decode cX6_nextCell 35 = .ok (.bipush 16, 2) := by decide +kernel
theorem dX6_nextCell_37 : decode cX6_nextCell 37 = .ok (.idiv, 1) := by decide +kernel
theorem dX6_nextCell_38 : decode cX6_nextCell 38 = .ok (.iload_n 2, 1) := by decide +kernel
theorem dX6_nextCell_39 : decode cX6_nextCell 39 = .ok (.iconst 3, 1) := by decide +kernel
theorem dX6_nextCell_40 : decode cX6_nextCell 40 = .ok (.iconst 5, 1) := by decide +kernel
theorem dX6_nextCell_41 : decode cX6_nextCell 41 = .ok (.invokestatic 87, 3) := by decide +kernel
theorem dX6_nextCell_44 : decode cX6_nextCell 44 = .ok (.ifCond .eq 7, 3) := by decide +kernel
theorem dX6_nextCell_47 : decode cX6_nextCell 47 = .ok (.iconst 1, 1) := by decide +kernel
theorem dX6_nextCell_48 : decode cX6_nextCell 48 = .ok (.goto 23, 3) := by decide +kernel
theorem dX6_nextCell_51 : decode cX6_nextCell 51 = .ok (.iload_n 2, 1) := by decide +kernel
theorem dX6_nextCell_52 : decode cX6_nextCell 52 = .ok (.ifCond .eq 14, 3) := by decide +kernel
theorem dX6_nextCell_55 : decode cX6_nextCell 55 = .ok (.iload_n 2, 1) := by decide +kernel
theorem dX6_nextCell_56 : decode cX6_nextCell 56 = .ok (.iconst 1, 1) := by decide +kernel
theorem dX6_nextCell_57 : decode cX6_nextCell 57 = .ok (.if_icmp .eq 9, 3) := by decide +kernel
theorem dX6_nextCell_60 : decode cX6_nextCell 60 = .ok (.iload_n 2, 1) := by decide +kernel
theorem dX6_nextCell_61 : decode cX6_nextCell 61 = .ok (.bipush 7, 2) := by decide +kernel
theorem dX6_nextCell_63 : decode cX6_nextCell 63 = .ok (.if_icmp .ne 7, 3) := by decide +kernel
theorem dX6_nextCell_66 : decode cX6_nextCell 66 = .ok (.iconst (-1), 1) := by decide +kernel
theorem dX6_nextCell_67 : decode cX6_nextCell 67 = .ok (.goto 4, 3) := by decide +kernel
theorem dX6_nextCell_70 : decode cX6_nextCell 70 = .ok (.iconst 0, 1) := by decide +kernel
theorem dX6_nextCell_71 : decode cX6_nextCell 71 = .ok (.iadd, 1) := by decide +kernel
theorem dX6_nextCell_72 : decode cX6_nextCell 72 = .ok (.istore 4, 2) := by decide +kernel
theorem dX6_nextCell_74 : decode cX6_nextCell 74 = .ok (.iload_n 3, 1) := by decide +kernel
theorem dX6_nextCell_75 : decode cX6_nextCell 75 = .ok (.iconst 0, 1) := by decide +kernel
theorem dX6_nextCell_76 : decode cX6_nextCell 76 = .ok (.bipush 15, 2) := by decide +kernel
theorem dX6_nextCell_78 : decode cX6_nextCell 78 = .ok (.invokestatic 87, 3) := by decide +kernel
theorem dX6_nextCell_81 : decode cX6_nextCell 81 = .ok (.ifCond .eq 29, 3) := by decide +kernel
theorem dX6_nextCell_84 : decode cX6_nextCell 84 = .ok (.iload 4, 2) := by decide +kernel
theorem dX6_nextCell_86 : decode cX6_nextCell 86 = .ok (.iconst 0, 1) := by decide +kernel
theorem dX6_nextCell_87 : decode cX6_nextCell 87 = .ok (.bipush 9, 2) := by decide +kernel
theorem dX6_nextCell_89 : decode cX6_nextCell 89 = .ok (.invokestatic 87, 3) := by decide +kernel
theorem dX6_nextCell_92 : decode cX6_nextCell 92 = .ok (.ifCond .eq 18, 3) := by decide +kernel
theorem dX6_nextCell_95 : decode cX6_nextCell 95 = .ok (.aload_n 0, 1) := by decide +kernel
theorem dX6_nextCell_96 : decode cX6_nextCell 96 = .ok (.getfield 13, 3) := by decide +kernel
theorem dX6_nextCell_99 : decode cX6_nextCell 99 = .ok (.bipush 16, 2) := by decide +kernel
theorem dX6_nextCell_101 : decode cX6_nextCell 101 = .ok (.iload 4, 2) := by decide +kernel
theorem dX6_nextCell_103 : decode cX6_nextCell 103 = .ok (.imul, 1) := by decide +kernel
theorem dX6_nextCell_104 : decode cX6_nextCell 104 = .ok (.iload_n 3, 1) := by decide +kernel
theorem dX6_nextCell_105 : decode cX6_nextCell 105 = .ok (.iadd, 1) := by decide +kernel
theorem dX6_nextCell_106 : decode cX6_nextCell 106 = .ok (.baload, 1) := by decide +kernel
theorem dX6_nextCell_107 : decode cX6_nextCell 107 = .ok (.ifCond .eq 8, 3) := by decide +kernel
theorem dX6_nextCell_110 : decode cX6_nextCell 110 = .ok (.bipush (-9), 2) := by decide +kernel
theorem dX6_nextCell_112 : decode cX6_nextCell 112 = .ok (.goto 10, 3) := by decide +kernel
theorem dX6_nextCell_115 : decode cX6_nextCell 115 = .ok (.bipush 16, 2) := by decide +kernel
theorem dX6_nextCell_117 : decode cX6_nextCell 117 = .ok (.iload 4, 2) := by decide +kernel
theorem dX6_nextCell_119 : decode cX6_nextCell 119 = .ok (.imul, 1) := by decide +kernel
theorem dX6_nextCell_120 : decode cX6_nextCell 120 = .ok (.iload_n 3, 1) := by decide +kernel
theorem dX6_nextCell_121 : decode cX6_nextCell 121 = .ok (.iadd, 1) := by decide +kernel
theorem dX6_nextCell_122 : decode cX6_nextCell 122 = .ok (.ireturn, 1) := by decide +kernel
theorem dX6_need_0 : decode cX6_need 0 = .ok (.iload_n 0, 1) := by decide +kernel
theorem dX6_need_1 : decode cX6_need 1 = .ok (.iconst 2, 1) := by decide +kernel
theorem dX6_need_2 : decode cX6_need 2 = .ok (.irem, 1) := by decide +kernel
theorem dX6_need_3 : decode cX6_need 3 = .ok (.ifCond .ne 8, 3) := by decide +kernel
theorem dX6_need_6 : decode cX6_need 6 = .ok (.bipush 60, 2) := by decide +kernel
theorem dX6_need_8 : decode cX6_need 8 = .ok (.goto 5, 3) := by decide +kernel
theorem dX6_need_11 : decode cX6_need 11 = .ok (.bipush 85, 2) := by decide +kernel
theorem dX6_need_13 : decode cX6_need 13 = .ok (.ireturn, 1) := by decide +kernel
set_option maxRecDepth 20000 in
theorem ggX6_isShip_X6_in : GoodIn wsX6_isShip wsX6_in := goodIn_r _ [5] (by decide +kernel) (by decide +kernel)
set_option maxRecDepth 20000 in
theorem gX6_isShip_X6_in : GoodIn wsX6_isShip (va_wsS RX6 87 yX6_in wsX6_in) := goodIn_app (goodIn_of _ (by decide +kernel)) ggX6_isShip_X6_in
theorem dX6_isShip_0 : decode cX6_isShip 0 = .ok (.iload_n 1, 1) := by decide +kernel
theorem dX6_isShip_1 : decode cX6_isShip 1 = .ok (.iconst 0, 1) := by decide +kernel
theorem dX6_isShip_2 : decode cX6_isShip 2 = .ok (.aload_n 0, 1) := by decide +kernel
theorem dX6_isShip_3 : decode cX6_isShip 3 = .ok (.getfield 110, 3) := by decide +kernel
theorem dX6_isShip_6 : decode cX6_isShip 6 = .ok (.iconst 1, 1) := by decide +kernel
theorem dX6_isShip_7 : decode cX6_isShip 7 = .ok (.isub, 1) := by decide +kernel
theorem dX6_isShip_8 : decode cX6_isShip 8 = .ok (.invokestatic 87, 3) := by decide +kernel
theorem dX6_isShip_11 : decode cX6_isShip 11 = .ok (.ireturn, 1) := by decide +kernel
set_option maxRecDepth 20000 in
theorem ggX6_ship_X6_in : GoodIn wsX6_ship wsX6_in := goodIn_r _ [11] (by decide +kernel) (by decide +kernel)
set_option maxRecDepth 20000 in
theorem gX6_ship_X6_in : GoodIn wsX6_ship (va_wsS RX6 87 yX6_in wsX6_in) := goodIn_app (goodIn_of _ (by decide +kernel)) ggX6_ship_X6_in
set_option maxRecDepth 20000 in
theorem ggX6_ship_X6_isCell : GoodIn wsX6_ship wsX6_isCell := goodIn_r _ [14, 8, 9, 10, 11] (by decide +kernel) (by decide +kernel)
set_option maxRecDepth 20000 in
theorem gX6_ship_X6_isCell : GoodIn wsX6_ship (va_wsS RX6 91 yX6_isCell wsX6_isCell) := goodIn_app (goodIn_of _ (by decide +kernel)) ggX6_ship_X6_isCell
theorem dX6_ship_0 : decode cX6_ship 0 = .ok (.iload_n 1, 1) := by decide +kernel
theorem dX6_ship_1 : decode cX6_ship 1 = .ok (.iconst 0, 1) := by decide +kernel
theorem dX6_ship_2 : decode cX6_ship 2 = .ok (.iconst 3, 1) := by decide +kernel
theorem dX6_ship_3 : decode cX6_ship 3 = .ok (.invokestatic 87, 3) := by decide +kernel
theorem dX6_ship_6 : decode cX6_ship 6 = .ok (.ifCond .eq 30, 3) := by decide +kernel
theorem dX6_ship_9 : decode cX6_ship 9 = .ok (.iload_n 2, 1) := by decide +kernel
theorem dX6_ship_10 : decode cX6_ship 10 = .ok (.invokestatic 91, 3) := by decide +kernel
theorem dX6_ship_13 : decode cX6_ship 13 = .ok (.ifCond .eq 23, 3) := by decide +kernel
theorem dX6_ship_16 : decode cX6_ship 16 = .ok (.aload_n 0, 1) := by decide +kernel
theorem dX6_ship_17 : decode cX6_ship 17 = .ok (.getfield 13, 3) := by decide +kernel
theorem dX6_ship_20 : decode cX6_ship 20 = .ok (.iload_n 2, 1) := by decide +kernel
theorem dX6_ship_21 : decode cX6_ship 21 = .ok (.baload, 1) := by decide +kernel
theorem dX6_ship_22 : decode cX6_ship 22 = .ok (.ifCond .ne 14, 3) := by decide +kernel
theorem dX6_ship_25 : decode cX6_ship 25 = .ok (.iload_n 3, 1) := by decide +kernel
theorem dX6_ship_26 : decode cX6_ship 26 = .ok (.iconst 0, 1) := by decide +kernel
theorem dX6_ship_27 : decode cX6_ship 27 = .ok (.sipush 20000, 3) := by decide +kernel
theorem dX6_ship_30 : decode cX6_ship 30 = .ok (.invokestatic 87, 3) := by decide +kernel
theorem dX6_ship_33 : decode cX6_ship 33 = .ok (.ifCond .ne 5, 3) := by decide +kernel
theorem dX6_ship_36 : decode cX6_ship 36 = .ok (.iconst (-1), 1) := by decide +kernel
theorem dX6_ship_37 : decode cX6_ship 37 = .ok (.ireturn, 1) := by decide +kernel
theorem dX6_ship_38 : decode cX6_ship 38 = .ok (.aload_n 0, 1) := by decide +kernel
theorem dX6_ship_39 : decode cX6_ship 39 = .ok (.getfield 110, 3) := by decide +kernel
theorem dX6_ship_42 : decode cX6_ship 42 = .ok (.bipush 8, 2) := by decide +kernel
theorem dX6_ship_44 : decode cX6_ship 44 = .ok (.if_icmp .ne 6, 3) := by decide +kernel
theorem dX6_ship_47 : decode cX6_ship 47 = .ok (.bipush (-2), 2) := by decide +kernel
theorem dX6_ship_49 : decode cX6_ship 49 = .ok (.ireturn, 1) := by decide +kernel
theorem dX6_ship_50 : decode cX6_ship 50 = .ok (.aload_n 0, 1) := by decide +kernel
theorem dX6_ship_51 : decode cX6_ship 51 = .ok (.getfield 113, 3) := by decide +kernel
theorem dX6_ship_54 : decode cX6_ship 54 = .ok (.ifCond .eq 6, 3) := by decide +kernel
theorem dX6_ship_57 : decode cX6_ship 57 = .ok (.bipush (-4), 2) := by decide +kernel
theorem dX6_ship_59 : decode cX6_ship 59 = .ok (.ireturn, 1) := by decide +kernel
theorem dX6_ship_60 : decode cX6_ship 60 = .ok (.aload_n 0, 1) := by decide +kernel
theorem dX6_ship_61 : decode cX6_ship 61 = .ok (.getfield 26, 3) := by decide +kernel
theorem dX6_ship_64 : decode cX6_ship 64 = .ok (.aload_n 0, 1) := by decide +kernel
theorem dX6_ship_65 : decode cX6_ship 65 = .ok (.getfield 110, 3) := by decide +kernel
theorem dX6_ship_68 : decode cX6_ship 68 = .ok (.iload_n 1, 1) := by decide +kernel
theorem dX6_ship_69 : decode cX6_ship 69 = .ok (.iastore, 1) := by decide +kernel
theorem dX6_ship_70 : decode cX6_ship 70 = .ok (.aload_n 0, 1) := by decide +kernel
theorem dX6_ship_71 : decode cX6_ship 71 = .ok (.getfield 29, 3) := by decide +kernel
theorem dX6_ship_74 : decode cX6_ship 74 = .ok (.aload_n 0, 1) := by decide +kernel
theorem dX6_ship_75 : decode cX6_ship 75 = .ok (.getfield 110, 3) := by decide +kernel
theorem dX6_ship_78 : decode cX6_ship 78 = .ok (.iload_n 2, 1) := by decide +kernel
theorem dX6_ship_79 : decode cX6_ship 79 = .ok (.iastore, 1) := by decide +kernel
theorem dX6_ship_80 : decode cX6_ship 80 = .ok (.aload_n 0, 1) := by decide +kernel
theorem dX6_ship_81 : decode cX6_ship 81 = .ok (.getfield 41, 3) := by decide +kernel
theorem dX6_ship_84 : decode cX6_ship 84 = .ok (.aload_n 0, 1) := by decide +kernel
theorem dX6_ship_85 : decode cX6_ship 85 = .ok (.getfield 110, 3) := by decide +kernel
theorem dX6_ship_88 : decode cX6_ship 88 = .ok (.iload_n 3, 1) := by decide +kernel
theorem dX6_ship_89 : decode cX6_ship 89 = .ok (.iastore, 1) := by decide +kernel
theorem dX6_ship_90 : decode cX6_ship 90 = .ok (.aload_n 0, 1) := by decide +kernel
theorem dX6_ship_91 : decode cX6_ship 91 = .ok (.getfield 38, 3) := by decide +kernel
theorem dX6_ship_94 : decode cX6_ship 94 = .ok (.aload_n 0, 1) := by decide +kernel
theorem dX6_ship_95 : decode cX6_ship 95 = .ok (.getfield 110, 3) := by decide +kernel
theorem dX6_ship_98 : decode cX6_ship 98 = .ok (.bipush (-9), 2) := by decide +kernel
theorem dX6_ship_100 : decode cX6_ship 100 = .ok (.iastore, 1) := by decide +kernel
theorem dX6_ship_101 : decode cX6_ship 101 = .ok (.aload_n 0, 1) := by decide +kernel
theorem dX6_ship_102 : decode cX6_ship 102 = .ok (.dup, 1) := by decide +kernel
theorem dX6_ship_103 : decode cX6_ship 103 = .ok (.getfield 110, 3) := by decide +kernel
theorem dX6_ship_106 : decode cX6_ship 106 = .ok (.iconst 1, 1) := by decide +kernel
theorem dX6_ship_107 : decode cX6_ship 107 = .ok (.iadd, 1) := by decide +kernel
theorem dX6_ship_108 : decode cX6_ship 108 = .ok (.putfield 110, 3) := by decide +kernel
theorem dX6_ship_111 : decode cX6_ship 111 = .ok (.aload_n 0, 1) := by decide +kernel
theorem dX6_ship_112 : decode cX6_ship 112 = .ok (.getfield 110, 3) := by decide +kernel
theorem dX6_ship_115 : decode cX6_ship 115 = .ok (.iconst 1, 1) := by decide +kernel
theorem dX6_ship_116 : decode cX6_ship 116 = .ok (.isub, 1) := by decide +kernel
theorem dX6_ship_117 : decode cX6_ship 117 = .ok (.ireturn, 1) := by decide +kernel
set_option maxRecDepth 20000 in
theorem ggX6_foul_X6_isShip : GoodIn wsX6_foul wsX6_isShip := goodIn_r _ [6, 7, 8, 9, 5, 10, 11, 12, 13, 14, 15, 16, 17, 18, 19, 20, 21, 22, 23, 24, 25, 26, 27, 28, 29, 30, 31, 32, 33, 34, 35, 36, 37, 38, 39, 40, 41] (by decide +kernel) (by decide +kernel)
set_option maxRecDepth 20000 in
theorem gX6_foul_X6_isShip : GoodIn wsX6_foul (wsV RX6 116 RX6 yX6_isShip wsX6_isShip) := goodIn_app (goodIn_of _ (by decide +kernel)) ggX6_foul_X6_isShip
set_option maxRecDepth 20000 in
theorem ggX6_foul_X6_in : GoodIn wsX6_foul wsX6_in := goodIn_r _ [10] (by decide +kernel) (by decide +kernel)
set_option maxRecDepth 20000 in
theorem gX6_foul_X6_in : GoodIn wsX6_foul (va_wsS RX6 87 yX6_in wsX6_in) := goodIn_app (goodIn_of _ (by decide +kernel)) ggX6_foul_X6_in
theorem dX6_foul_0 : decode cX6_foul 0 = .ok (.aload_n 0, 1) := by decide +kernel
theorem dX6_foul_1 : decode cX6_foul 1 = .ok (.iload_n 1, 1) := by decide +kernel
theorem dX6_foul_2 : decode cX6_foul 2 = .ok (.invokevirtual 116, 3) := by decide +kernel
theorem dX6_foul_5 : decode cX6_foul 5 = .ok (.ifCond .eq 13, 3) := by decide +kernel
theorem dX6_foul_8 : decode cX6_foul 8 = .ok (.iload_n 2, 1) := by decide +kernel
theorem dX6_foul_9 : decode cX6_foul 9 = .ok (.iconst 0, 1) := by decide +kernel
theorem dX6_foul_10 : decode cX6_foul 10 = .ok (.bipush 9, 2) := by decide +kernel
theorem dX6_foul_12 : decode cX6_foul 12 = .ok (.invokestatic 87, 3) := by decide +kernel
theorem dX6_foul_15 : decode cX6_foul 15 = .ok (.ifCond .ne 5, 3) := by decide +kernel
theorem dX6_foul_18 : decode cX6_foul 18 = .ok (.iconst (-1), 1) := by decide +kernel
theorem dX6_foul_19 : decode cX6_foul 19 = .ok (.ireturn, 1) := by decide +kernel
theorem dX6_foul_20 : decode cX6_foul 20 = .ok (.aload_n 0, 1) := by decide +kernel
theorem dX6_foul_21 : decode cX6_foul 21 = .ok (.getfield 44, 3) := by decide +kernel
theorem dX6_foul_24 : decode cX6_foul 24 = .ok (.iload_n 1, 1) := by decide +kernel
theorem dX6_foul_25 : decode cX6_foul 25 = .ok (.iaload, 1) := by decide +kernel
theorem dX6_foul_26 : decode cX6_foul 26 = .ok (.istore_n 3, 1) := by decide +kernel
theorem dX6_foul_27 : decode cX6_foul 27 = .ok (.aload_n 0, 1) := by decide +kernel
theorem dX6_foul_28 : decode cX6_foul 28 = .ok (.getfield 44, 3) := by decide +kernel
theorem dX6_foul_31 : decode cX6_foul 31 = .ok (.iload_n 1, 1) := by decide +kernel
theorem dX6_foul_32 : decode cX6_foul 32 = .ok (.iload_n 2, 1) := by decide +kernel
theorem dX6_foul_33 : decode cX6_foul 33 = .ok (.iastore, 1) := by decide +kernel
theorem dX6_foul_34 : decode cX6_foul 34 = .ok (.iload_n 3, 1) := by decide +kernel
theorem dX6_foul_35 : decode cX6_foul 35 = .ok (.ireturn, 1) := by decide +kernel
theorem dX6_entryOf_0 : decode cX6_entryOf 0 = .ok (.aload_n 0, 1) := by decide +kernel
theorem dX6_entryOf_1 : decode cX6_entryOf 1 = .ok (.getfield 38, 3) := by decide +kernel
theorem dX6_entryOf_4 : decode cX6_entryOf 4 = .ok (.iload_n 1, 1) := by decide +kernel
theorem dX6_entryOf_5 : decode cX6_entryOf 5 = .ok (.iaload, 1) := by decide +kernel
theorem dX6_entryOf_6 : decode cX6_entryOf 6 = .ok (.bipush (-9), 2) := by decide +kernel
theorem dX6_entryOf_8 : decode cX6_entryOf 8 = .ok (.if_icmp .ne 6, 3) := by decide +kernel
theorem dX6_entryOf_11 : decode cX6_entryOf 11 = .ok (.bipush (-9), 2) := by decide +kernel
theorem dX6_entryOf_13 : decode cX6_entryOf 13 = .ok (.ireturn, 1) := by decide +kernel
theorem dX6_entryOf_14 : decode cX6_entryOf 14 = .ok (.aload_n 0, 1) := by decide +kernel
theorem dX6_entryOf_15 : decode cX6_entryOf 15 = .ok (.getfield 38, 3) := by decide +kernel
theorem dX6_entryOf_18 : decode cX6_entryOf 18 = .ok (.iload_n 1, 1) := by decide +kernel
theorem dX6_entryOf_19 : decode cX6_entryOf 19 = .ok (.iaload, 1) := by decide +kernel
theorem dX6_entryOf_20 : decode cX6_entryOf 20 = .ok (.istore_n 2, 1) := by decide +kernel
theorem dX6_entryOf_21 : decode cX6_entryOf 21 = .ok (.iload_n 2, 1) := by decide +kernel
theorem dX6_entryOf_22 : decode cX6_entryOf 22 = .ok (.bipush 24, 2) := by decide +kernel
theorem dX6_entryOf_24 : decode cX6_entryOf 24 = .ok (.irem, 1) := by decide +kernel
theorem dX6_entryOf_25 : decode cX6_entryOf 25 = .ok (.bipush 24, 2) := by decide +kernel
theorem dX6_entryOf_27 : decode cX6_entryOf 27 = .ok (.iadd, 1) := by decide +kernel
theorem dX6_entryOf_28 : decode cX6_entryOf 28 = .ok (.aload_n 0, 1) := by decide +kernel
theorem dX6_entryOf_29 : decode cX6_entryOf 29 = .ok (.getfield 119, 3) := by decide +kernel
theorem dX6_entryOf_32 : decode cX6_entryOf 32 = .ok (.isub, 1) := by decide +kernel
theorem dX6_entryOf_33 : decode cX6_entryOf 33 = .ok (.bipush 24, 2) := by decide +kernel
theorem dX6_entryOf_35 : decode cX6_entryOf 35 = .ok (.irem, 1) := by decide +kernel
theorem dX6_entryOf_36 : decode cX6_entryOf 36 = .ok (.iconst 5, 1) := by decide +kernel
theorem dX6_entryOf_37 : decode cX6_entryOf 37 = .ok (.if_icmp .le 9, 3) := by decide +kernel
theorem dX6_entryOf_40 : decode cX6_entryOf 40 = .ok (.iinc 2 1, 3) := by decide +kernel
theorem dX6_entryOf_43 : decode cX6_entryOf 43 = .ok (.goto (-22), 3) := by decide +kernel
theorem dX6_entryOf_46 : decode cX6_entryOf 46 = .ok (.iload_n 2, 1) := by decide +kernel
theorem dX6_entryOf_47 : decode cX6_entryOf 47 = .ok (.ireturn, 1) := by decide +kernel
set_option maxRecDepth 20000 in
theorem ggX6_tells_X6_entryOf : GoodIn wsX6_tells wsX6_entryOf := goodIn_r _ [11, 5, 12, 13, 14, 15, 16, 17, 18, 19, 20, 21, 22, 23, 24, 25, 26, 27, 28, 29, 30, 31, 32, 33, 34, 35, 36, 37, 38, 39, 40, 41, 42, 43] (by decide +kernel) (by decide +kernel)
set_option maxRecDepth 20000 in
theorem gX6_tells_X6_entryOf : GoodIn wsX6_tells (wsV RX6 122 RX6 yX6_entryOf wsX6_entryOf) := goodIn_app (goodIn_of _ (by decide +kernel)) ggX6_tells_X6_entryOf
theorem dX6_tells_0 : decode cX6_tells 0 = .ok (.iload_n 2, 1) := by decide +kernel
theorem dX6_tells_1 : decode cX6_tells 1 = .ok (.tableswitch 80 0 5 #[39, 46, 53, 60, 67, 74], 39) := by decide +kernel
theorem dX6_tells_40 : decode cX6_tells 40 = .ok (.aload_n 0, 1) := by decide +kernel
theorem dX6_tells_41 : decode cX6_tells 41 = .ok (.getfield 26, 3) := by decide +kernel
theorem dX6_tells_44 : decode cX6_tells 44 = .ok (.iload_n 1, 1) := by decide +kernel
theorem dX6_tells_45 : decode cX6_tells 45 = .ok (.iaload, 1) := by decide +kernel
theorem dX6_tells_46 : decode cX6_tells 46 = .ok (.ireturn, 1) := by decide +kernel
theorem dX6_tells_47 : decode cX6_tells 47 = .ok (.aload_n 0, 1) := by decide +kernel
theorem dX6_tells_48 : decode cX6_tells 48 = .ok (.getfield 29, 3) := by decide +kernel
theorem dX6_tells_51 : decode cX6_tells 51 = .ok (.iload_n 1, 1) := by decide +kernel
theorem dX6_tells_52 : decode cX6_tells 52 = .ok (.iaload, 1) := by decide +kernel
theorem dX6_tells_53 : decode cX6_tells 53 = .ok (.ireturn, 1) := by decide +kernel
theorem dX6_tells_54 : decode cX6_tells 54 = .ok (.aload_n 0, 1) := by decide +kernel
theorem dX6_tells_55 : decode cX6_tells 55 = .ok (.getfield 32, 3) := by decide +kernel
theorem dX6_tells_58 : decode cX6_tells 58 = .ok (.iload_n 1, 1) := by decide +kernel
theorem dX6_tells_59 : decode cX6_tells 59 = .ok (.iaload, 1) := by decide +kernel
theorem dX6_tells_60 : decode cX6_tells 60 = .ok (.ireturn, 1) := by decide +kernel
theorem dX6_tells_61 : decode cX6_tells 61 = .ok (.aload_n 0, 1) := by decide +kernel
theorem dX6_tells_62 : decode cX6_tells 62 = .ok (.getfield 35, 3) := by decide +kernel
theorem dX6_tells_65 : decode cX6_tells 65 = .ok (.iload_n 1, 1) := by decide +kernel
theorem dX6_tells_66 : decode cX6_tells 66 = .ok (.iaload, 1) := by decide +kernel
theorem dX6_tells_67 : decode cX6_tells 67 = .ok (.ireturn, 1) := by decide +kernel
theorem dX6_tells_68 : decode cX6_tells 68 = .ok (.aload_n 0, 1) := by decide +kernel
theorem dX6_tells_69 : decode cX6_tells 69 = .ok (.getfield 38, 3) := by decide +kernel
theorem dX6_tells_72 : decode cX6_tells 72 = .ok (.iload_n 1, 1) := by decide +kernel
end
section
theorem dX6_tells_73 : decode cX6_tells 73 = .ok (.iaload, 1) := by decide +kernel
theorem dX6_tells_74 : decode cX6_tells 74 = .ok (.ireturn, 1) := by decide +kernel
theorem dX6_tells_75 : decode cX6_tells 75 = .ok (.aload_n 0, 1) := by decide +kernel
theorem dX6_tells_76 : decode cX6_tells 76 = .ok (.iload_n 1, 1) := by decide +kernel
theorem dX6_tells_77 : decode cX6_tells 77 = .ok (.invokevirtual 122, 3) := by decide +kernel
theorem dX6_tells_80 : decode cX6_tells 80 = .ok (.ireturn, 1) := by decide +kernel
theorem dX6_tells_81 : decode cX6_tells 81 = .ok (.aload_n 0, 1) := by decide +kernel
theorem dX6_tells_82 : decode cX6_tells 82 = .ok (.getfield 41, 3) := by decide +kernel
theorem dX6_tells_85 : decode cX6_tells 85 = .ok (.iload_n 1, 1) := by decide +kernel
theorem dX6_tells_86 : decode cX6_tells 86 = .ok (.iaload, 1) := by decide +kernel
theorem dX6_tells_87 : decode cX6_tells 87 = .ok (.ireturn, 1) := by decide +kernel
set_option maxRecDepth 20000 in
theorem ggX6_told_X6_isShip : GoodIn wsX6_told wsX6_isShip := goodIn_r _ [5, 6, 7, 8, 4, 9, 25, 26, 27, 28, 29, 30, 31, 32, 33, 34, 35, 36, 37, 38, 39, 40, 41, 42, 43, 44, 45, 46, 47, 48, 49, 50, 51, 52, 53, 54, 55] (by decide +kernel) (by decide +kernel)
set_option maxRecDepth 20000 in
theorem gX6_told_X6_isShip : GoodIn wsX6_told (wsV RX6 116 RX6 yX6_isShip wsX6_isShip) := goodIn_app (goodIn_of _ (by decide +kernel)) ggX6_told_X6_isShip
set_option maxRecDepth 20000 in
theorem ggX6_told_X6_in : GoodIn wsX6_told wsX6_in := goodIn_r _ [9] (by decide +kernel) (by decide +kernel)
set_option maxRecDepth 20000 in
theorem gX6_told_X6_in : GoodIn wsX6_told (va_wsS RX6 87 yX6_in wsX6_in) := goodIn_app (goodIn_of _ (by decide +kernel)) ggX6_told_X6_in
set_option maxRecDepth 20000 in
theorem ggX6_told_X6_tells : GoodIn wsX6_told wsX6_tells := goodIn_r _ [13, 14, 15, 16, 17, 18, 19, 20, 21, 22, 4, 23, 24, 25, 26, 27, 28, 29, 30, 31, 32, 33, 34, 35, 36, 37, 38, 39, 40, 41, 42, 43, 44, 45, 46, 47, 48, 49, 50, 51, 52, 53, 54, 55] (by decide +kernel) (by decide +kernel)
set_option maxRecDepth 20000 in
theorem gX6_told_X6_tells : GoodIn wsX6_told (wsV RX6 125 RX6 yX6_tells wsX6_tells) := goodIn_app (goodIn_of _ (by decide +kernel)) ggX6_told_X6_tells
theorem dX6_told_0 : decode cX6_told 0 = .ok (.aload_n 0, 1) := by decide +kernel
theorem dX6_told_1 : decode cX6_told 1 = .ok (.iload_n 1, 1) := by decide +kernel
theorem dX6_told_2 : decode cX6_told 2 = .ok (.invokevirtual 116, 3) := by decide +kernel
theorem dX6_told_5 : decode cX6_told 5 = .ok (.ifCond .eq 22, 3) := by decide +kernel
theorem dX6_told_8 : decode cX6_told 8 = .ok (.iload_n 2, 1) := by decide +kernel
theorem dX6_told_9 : decode cX6_told 9 = .ok (.iconst 0, 1) := by decide +kernel
theorem dX6_told_10 : decode cX6_told 10 = .ok (.bipush 6, 2) := by decide +kernel
theorem dX6_told_12 : decode cX6_told 12 = .ok (.invokestatic 87, 3) := by decide +kernel
theorem dX6_told_15 : decode cX6_told 15 = .ok (.ifCond .eq 12, 3) := by decide +kernel
theorem dX6_told_18 : decode cX6_told 18 = .ok (.aload_n 0, 1) := by decide +kernel
theorem dX6_told_19 : decode cX6_told 19 = .ok (.iload_n 1, 1) := by decide +kernel
theorem dX6_told_20 : decode cX6_told 20 = .ok (.iload_n 2, 1) := by decide +kernel
theorem dX6_told_21 : decode cX6_told 21 = .ok (.invokevirtual 125, 3) := by decide +kernel
theorem dX6_told_24 : decode cX6_told 24 = .ok (.goto 4, 3) := by decide +kernel
theorem dX6_told_27 : decode cX6_told 27 = .ok (.iconst (-1), 1) := by decide +kernel
theorem dX6_told_28 : decode cX6_told 28 = .ok (.ireturn, 1) := by decide +kernel
theorem dX6_speedOf_0 : decode cX6_speedOf 0 = .ok (.iload_n 2, 1) := by decide +kernel
theorem dX6_speedOf_1 : decode cX6_speedOf 1 = .ok (.iload_n 3, 1) := by decide +kernel
theorem dX6_speedOf_2 : decode cX6_speedOf 2 = .ok (.if_icmp .le 9, 3) := by decide +kernel
theorem dX6_speedOf_5 : decode cX6_speedOf 5 = .ok (.iload_n 2, 1) := by decide +kernel
theorem dX6_speedOf_6 : decode cX6_speedOf 6 = .ok (.iload_n 3, 1) := by decide +kernel
theorem dX6_speedOf_7 : decode cX6_speedOf 7 = .ok (.isub, 1) := by decide +kernel
theorem dX6_speedOf_8 : decode cX6_speedOf 8 = .ok (.goto 6, 3) := by decide +kernel
theorem dX6_speedOf_11 : decode cX6_speedOf 11 = .ok (.iload_n 3, 1) := by decide +kernel
theorem dX6_speedOf_12 : decode cX6_speedOf 12 = .ok (.iload_n 2, 1) := by decide +kernel
theorem dX6_speedOf_13 : decode cX6_speedOf 13 = .ok (.isub, 1) := by decide +kernel
theorem dX6_speedOf_14 : decode cX6_speedOf 14 = .ok (.istore 5, 2) := by decide +kernel
theorem dX6_speedOf_16 : decode cX6_speedOf 16 = .ok (.iload 5, 2) := by decide +kernel
theorem dX6_speedOf_18 : decode cX6_speedOf 18 = .ok (.iconst 4, 1) := by decide +kernel
theorem dX6_speedOf_19 : decode cX6_speedOf 19 = .ok (.if_icmp .le 11, 3) := by decide +kernel
theorem dX6_speedOf_22 : decode cX6_speedOf 22 = .ok (.bipush 8, 2) := by decide +kernel
theorem dX6_speedOf_24 : decode cX6_speedOf 24 = .ok (.iload 5, 2) := by decide +kernel
theorem dX6_speedOf_26 : decode cX6_speedOf 26 = .ok (.isub, 1) := by decide +kernel
theorem dX6_speedOf_27 : decode cX6_speedOf 27 = .ok (.goto 5, 3) := by decide +kernel
theorem dX6_speedOf_30 : decode cX6_speedOf 30 = .ok (.iload 5, 2) := by decide +kernel
theorem dX6_speedOf_32 : decode cX6_speedOf 32 = .ok (.istore 5, 2) := by decide +kernel
theorem dX6_speedOf_34 : decode cX6_speedOf 34 = .ok (.iload 5, 2) := by decide +kernel
theorem dX6_speedOf_36 : decode cX6_speedOf 36 = .ok (.iconst 4, 1) := by decide +kernel
theorem dX6_speedOf_37 : decode cX6_speedOf 37 = .ok (.if_icmp .ne 10, 3) := by decide +kernel
theorem dX6_speedOf_40 : decode cX6_speedOf 40 = .ok (.iconst 2, 1) := by decide +kernel
theorem dX6_speedOf_41 : decode cX6_speedOf 41 = .ok (.iload 4, 2) := by decide +kernel
theorem dX6_speedOf_43 : decode cX6_speedOf 43 = .ok (.imul, 1) := by decide +kernel
theorem dX6_speedOf_44 : decode cX6_speedOf 44 = .ok (.goto 8, 3) := by decide +kernel
theorem dX6_speedOf_47 : decode cX6_speedOf 47 = .ok (.iload 5, 2) := by decide +kernel
theorem dX6_speedOf_49 : decode cX6_speedOf 49 = .ok (.iload 4, 2) := by decide +kernel
theorem dX6_speedOf_51 : decode cX6_speedOf 51 = .ok (.imul, 1) := by decide +kernel
theorem dX6_speedOf_52 : decode cX6_speedOf 52 = .ok (.istore 6, 2) := by decide +kernel
theorem dX6_speedOf_54 : decode cX6_speedOf 54 = .ok (.iload 5, 2) := by decide +kernel
theorem dX6_speedOf_56 : decode cX6_speedOf 56 = .ok (.iconst 2, 1) := by decide +kernel
theorem dX6_speedOf_57 : decode cX6_speedOf 57 = .ok (.if_icmp .eq 9, 3) := by decide +kernel
theorem dX6_speedOf_60 : decode cX6_speedOf 60 = .ok (.iload 5, 2) := by decide +kernel
theorem dX6_speedOf_62 : decode cX6_speedOf 62 = .ok (.iconst 3, 1) := by decide +kernel
theorem dX6_speedOf_63 : decode cX6_speedOf 63 = .ok (.if_icmp .ne 8, 3) := by decide +kernel
theorem dX6_speedOf_66 : decode cX6_speedOf 66 = .ok (.iload 4, 2) := by decide +kernel
theorem dX6_speedOf_68 : decode cX6_speedOf 68 = .ok (.goto 4, 3) := by decide +kernel
theorem dX6_speedOf_71 : decode cX6_speedOf 71 = .ok (.iconst 0, 1) := by decide +kernel
theorem dX6_speedOf_72 : decode cX6_speedOf 72 = .ok (.istore 7, 2) := by decide +kernel
theorem dX6_speedOf_74 : decode cX6_speedOf 74 = .ok (.iload 6, 2) := by decide +kernel
theorem dX6_speedOf_76 : decode cX6_speedOf 76 = .ok (.aload_n 0, 1) := by decide +kernel
theorem dX6_speedOf_77 : decode cX6_speedOf 77 = .ok (.getfield 26, 3) := by decide +kernel
theorem dX6_speedOf_80 : decode cX6_speedOf 80 = .ok (.iload_n 1, 1) := by decide +kernel
theorem dX6_speedOf_81 : decode cX6_speedOf 81 = .ok (.iaload, 1) := by decide +kernel
theorem dX6_speedOf_82 : decode cX6_speedOf 82 = .ok (.iconst 1, 1) := by decide +kernel
theorem dX6_speedOf_83 : decode cX6_speedOf 83 = .ok (.if_icmp .ne 8, 3) := by decide +kernel
theorem dX6_speedOf_86 : decode cX6_speedOf 86 = .ok (.iload 7, 2) := by decide +kernel
theorem dX6_speedOf_88 : decode cX6_speedOf 88 = .ok (.goto 21, 3) := by decide +kernel
theorem dX6_speedOf_91 : decode cX6_speedOf 91 = .ok (.aload_n 0, 1) := by decide +kernel
theorem dX6_speedOf_92 : decode cX6_speedOf 92 = .ok (.getfield 26, 3) := by decide +kernel
theorem dX6_speedOf_95 : decode cX6_speedOf 95 = .ok (.iload_n 1, 1) := by decide +kernel
theorem dX6_speedOf_96 : decode cX6_speedOf 96 = .ok (.iaload, 1) := by decide +kernel
theorem dX6_speedOf_97 : decode cX6_speedOf 97 = .ok (.iconst 3, 1) := by decide +kernel
theorem dX6_speedOf_98 : decode cX6_speedOf 98 = .ok (.if_icmp .ne 10, 3) := by decide +kernel
theorem dX6_speedOf_101 : decode cX6_speedOf 101 = .ok (.iconst 2, 1) := by decide +kernel
theorem dX6_speedOf_102 : decode cX6_speedOf 102 = .ok (.iload 7, 2) := by decide +kernel
theorem dX6_speedOf_104 : decode cX6_speedOf 104 = .ok (.imul, 1) := by decide +kernel
theorem dX6_speedOf_105 : decode cX6_speedOf 105 = .ok (.goto 4, 3) := by decide +kernel
theorem dX6_speedOf_108 : decode cX6_speedOf 108 = .ok (.iconst 0, 1) := by decide +kernel
theorem dX6_speedOf_109 : decode cX6_speedOf 109 = .ok (.iadd, 1) := by decide +kernel
theorem dX6_speedOf_110 : decode cX6_speedOf 110 = .ok (.istore 6, 2) := by decide +kernel
theorem dX6_speedOf_112 : decode cX6_speedOf 112 = .ok (.aload_n 0, 1) := by decide +kernel
theorem dX6_speedOf_113 : decode cX6_speedOf 113 = .ok (.getfield 26, 3) := by decide +kernel
theorem dX6_speedOf_116 : decode cX6_speedOf 116 = .ok (.iload_n 1, 1) := by decide +kernel
theorem dX6_speedOf_117 : decode cX6_speedOf 117 = .ok (.iaload, 1) := by decide +kernel
theorem dX6_speedOf_118 : decode cX6_speedOf 118 = .ok (.iconst 2, 1) := by decide +kernel
theorem dX6_speedOf_119 : decode cX6_speedOf 119 = .ok (.if_icmp .ne 8, 3) := by decide +kernel
theorem dX6_speedOf_122 : decode cX6_speedOf 122 = .ok (.bipush 8, 2) := by decide +kernel
theorem dX6_speedOf_124 : decode cX6_speedOf 124 = .ok (.goto 5, 3) := by decide +kernel
theorem dX6_speedOf_127 : decode cX6_speedOf 127 = .ok (.iload 6, 2) := by decide +kernel
theorem dX6_speedOf_129 : decode cX6_speedOf 129 = .ok (.istore 6, 2) := by decide +kernel
theorem dX6_speedOf_131 : decode cX6_speedOf 131 = .ok (.iload 6, 2) := by decide +kernel
theorem dX6_speedOf_133 : decode cX6_speedOf 133 = .ok (.aload_n 0, 1) := by decide +kernel
theorem dX6_speedOf_134 : decode cX6_speedOf 134 = .ok (.getfield 44, 3) := by decide +kernel
theorem dX6_speedOf_137 : decode cX6_speedOf 137 = .ok (.iload_n 1, 1) := by decide +kernel
theorem dX6_speedOf_138 : decode cX6_speedOf 138 = .ok (.iaload, 1) := by decide +kernel
theorem dX6_speedOf_139 : decode cX6_speedOf 139 = .ok (.if_icmp .le 15, 3) := by decide +kernel
theorem dX6_speedOf_142 : decode cX6_speedOf 142 = .ok (.iload 6, 2) := by decide +kernel
theorem dX6_speedOf_144 : decode cX6_speedOf 144 = .ok (.aload_n 0, 1) := by decide +kernel
theorem dX6_speedOf_145 : decode cX6_speedOf 145 = .ok (.getfield 44, 3) := by decide +kernel
theorem dX6_speedOf_148 : decode cX6_speedOf 148 = .ok (.iload_n 1, 1) := by decide +kernel
theorem dX6_speedOf_149 : decode cX6_speedOf 149 = .ok (.iaload, 1) := by decide +kernel
theorem dX6_speedOf_150 : decode cX6_speedOf 150 = .ok (.isub, 1) := by decide +kernel
theorem dX6_speedOf_151 : decode cX6_speedOf 151 = .ok (.goto 4, 3) := by decide +kernel
theorem dX6_speedOf_154 : decode cX6_speedOf 154 = .ok (.iconst 0, 1) := by decide +kernel
theorem dX6_speedOf_155 : decode cX6_speedOf 155 = .ok (.ireturn, 1) := by decide +kernel
set_option maxRecDepth 20000 in
theorem ggX6_mark_X6_isShip : GoodIn wsX6_mark wsX6_isShip := goodIn_r _ [8, 9, 10, 11, 7, 12, 24, 25, 26, 27, 28, 29, 30, 31, 32, 33, 34, 35, 36, 37, 38, 39, 40, 41, 42, 43, 44, 45, 46, 47, 48, 49, 50, 51, 52, 53, 54] (by decide +kernel) (by decide +kernel)
set_option maxRecDepth 20000 in
theorem gX6_mark_X6_isShip : GoodIn wsX6_mark (wsV RX6 116 RX6 yX6_isShip wsX6_isShip) := goodIn_app (goodIn_of _ (by decide +kernel)) ggX6_mark_X6_isShip
set_option maxRecDepth 20000 in
theorem ggX6_mark_X6_in : GoodIn wsX6_mark wsX6_in := goodIn_r _ [12] (by decide +kernel) (by decide +kernel)
set_option maxRecDepth 20000 in
theorem gX6_mark_X6_in : GoodIn wsX6_mark (va_wsS RX6 87 yX6_in wsX6_in) := goodIn_app (goodIn_of _ (by decide +kernel)) ggX6_mark_X6_in
set_option maxRecDepth 20000 in
theorem ggX6_mark_X6_meets : GoodIn wsX6_mark wsX6_meets := goodIn_r _ [16, 17, 18, 24, 25, 26, 27, 28, 29, 30, 31, 32, 33, 34, 35, 36, 37, 38, 39, 40, 41, 42, 43, 44, 45, 46, 47, 48, 49, 50, 51, 52, 53, 54] (by decide +kernel) (by decide +kernel)
set_option maxRecDepth 20000 in
theorem gX6_mark_X6_meets : GoodIn wsX6_mark (wsV RX6 98 RX6 yX6_meets wsX6_meets) := goodIn_app (goodIn_of _ (by decide +kernel)) ggX6_mark_X6_meets
set_option maxRecDepth 20000 in
theorem ggX6_mark_X6_speedOf : GoodIn wsX6_mark wsX6_speedOf := goodIn_r _ [22, 1, 23, 24, 25, 26, 27, 28, 29, 30, 31, 32, 33, 34, 35, 36, 37, 38, 39, 40, 41, 42, 43, 44, 45, 46, 47, 48, 49, 50, 51, 52, 53, 54] (by decide +kernel) (by decide +kernel)
set_option maxRecDepth 20000 in
theorem gX6_mark_X6_speedOf : GoodIn wsX6_mark (wsV RX6 129 RX6 yX6_speedOf wsX6_speedOf) := goodIn_app (goodIn_of _ (by decide +kernel)) ggX6_mark_X6_speedOf
theorem dX6_mark_0 : decode cX6_mark 0 = .ok (.aload_n 0, 1) := by decide +kernel
theorem dX6_mark_1 : decode cX6_mark 1 = .ok (.iload_n 1, 1) := by decide +kernel
theorem dX6_mark_2 : decode cX6_mark 2 = .ok (.invokevirtual 116, 3) := by decide +kernel
theorem dX6_mark_5 : decode cX6_mark 5 = .ok (.ifCond .eq 12, 3) := by decide +kernel
theorem dX6_mark_8 : decode cX6_mark 8 = .ok (.iload_n 2, 1) := by decide +kernel
theorem dX6_mark_9 : decode cX6_mark 9 = .ok (.iconst 1, 1) := by decide +kernel
theorem dX6_mark_10 : decode cX6_mark 10 = .ok (.iconst 3, 1) := by decide +kernel
theorem dX6_mark_11 : decode cX6_mark 11 = .ok (.invokestatic 87, 3) := by decide +kernel
theorem dX6_mark_14 : decode cX6_mark 14 = .ok (.ifCond .ne 5, 3) := by decide +kernel
theorem dX6_mark_17 : decode cX6_mark 17 = .ok (.iconst (-1), 1) := by decide +kernel
theorem dX6_mark_18 : decode cX6_mark 18 = .ok (.ireturn, 1) := by decide +kernel
theorem dX6_mark_19 : decode cX6_mark 19 = .ok (.aload_n 0, 1) := by decide +kernel
theorem dX6_mark_20 : decode cX6_mark 20 = .ok (.getfield 26, 3) := by decide +kernel
theorem dX6_mark_23 : decode cX6_mark 23 = .ok (.iload_n 1, 1) := by decide +kernel
theorem dX6_mark_24 : decode cX6_mark 24 = .ok (.iaload, 1) := by decide +kernel
theorem dX6_mark_25 : decode cX6_mark 25 = .ok (.istore_n 3, 1) := by decide +kernel
theorem dX6_mark_26 : decode cX6_mark 26 = .ok (.iload_n 2, 1) := by decide +kernel
theorem dX6_mark_27 : decode cX6_mark 27 = .ok (.iload_n 3, 1) := by decide +kernel
theorem dX6_mark_28 : decode cX6_mark 28 = .ok (.if_icmp .eq 19, 3) := by decide +kernel
theorem dX6_mark_31 : decode cX6_mark 31 = .ok (.iload_n 2, 1) := by decide +kernel
theorem dX6_mark_32 : decode cX6_mark 32 = .ok (.iconst 1, 1) := by decide +kernel
theorem dX6_mark_33 : decode cX6_mark 33 = .ok (.if_icmp .ne 8, 3) := by decide +kernel
theorem dX6_mark_36 : decode cX6_mark 36 = .ok (.iload_n 3, 1) := by decide +kernel
theorem dX6_mark_37 : decode cX6_mark 37 = .ok (.iconst 3, 1) := by decide +kernel
theorem dX6_mark_38 : decode cX6_mark 38 = .ok (.if_icmp .eq 9, 3) := by decide +kernel
theorem dX6_mark_41 : decode cX6_mark 41 = .ok (.aload_n 0, 1) := by decide +kernel
theorem dX6_mark_42 : decode cX6_mark 42 = .ok (.iconst 3, 1) := by decide +kernel
theorem dX6_mark_43 : decode cX6_mark 43 = .ok (.invokevirtual 98, 3) := by decide +kernel
theorem dX6_mark_46 : decode cX6_mark 46 = .ok (.ireturn, 1) := by decide +kernel
theorem dX6_mark_47 : decode cX6_mark 47 = .ok (.iload_n 2, 1) := by decide +kernel
theorem dX6_mark_48 : decode cX6_mark 48 = .ok (.iconst 1, 1) := by decide +kernel
theorem dX6_mark_49 : decode cX6_mark 49 = .ok (.if_icmp .ne 12, 3) := by decide +kernel
theorem dX6_mark_52 : decode cX6_mark 52 = .ok (.aload_n 0, 1) := by decide +kernel
theorem dX6_mark_53 : decode cX6_mark 53 = .ok (.getfield 50, 3) := by decide +kernel
theorem dX6_mark_56 : decode cX6_mark 56 = .ok (.iload_n 1, 1) := by decide +kernel
theorem dX6_mark_57 : decode cX6_mark 57 = .ok (.iaload, 1) := by decide +kernel
theorem dX6_mark_58 : decode cX6_mark 58 = .ok (.goto 25, 3) := by decide +kernel
theorem dX6_mark_61 : decode cX6_mark 61 = .ok (.iload_n 2, 1) := by decide +kernel
theorem dX6_mark_62 : decode cX6_mark 62 = .ok (.iconst 2, 1) := by decide +kernel
theorem dX6_mark_63 : decode cX6_mark 63 = .ok (.if_icmp .ne 14, 3) := by decide +kernel
theorem dX6_mark_66 : decode cX6_mark 66 = .ok (.aload_n 0, 1) := by decide +kernel
theorem dX6_mark_67 : decode cX6_mark 67 = .ok (.iload_n 1, 1) := by decide +kernel
theorem dX6_mark_68 : decode cX6_mark 68 = .ok (.iconst 0, 1) := by decide +kernel
theorem dX6_mark_69 : decode cX6_mark 69 = .ok (.iconst 0, 1) := by decide +kernel
theorem dX6_mark_70 : decode cX6_mark 70 = .ok (.iconst 0, 1) := by decide +kernel
theorem dX6_mark_71 : decode cX6_mark 71 = .ok (.invokevirtual 129, 3) := by decide +kernel
theorem dX6_mark_74 : decode cX6_mark 74 = .ok (.goto 9, 3) := by decide +kernel
theorem dX6_mark_77 : decode cX6_mark 77 = .ok (.aload_n 0, 1) := by decide +kernel
theorem dX6_mark_78 : decode cX6_mark 78 = .ok (.getfield 47, 3) := by decide +kernel
theorem dX6_mark_81 : decode cX6_mark 81 = .ok (.iload_n 1, 1) := by decide +kernel
theorem dX6_mark_82 : decode cX6_mark 82 = .ok (.iaload, 1) := by decide +kernel
theorem dX6_mark_83 : decode cX6_mark 83 = .ok (.ireturn, 1) := by decide +kernel
set_option maxRecDepth 20000 in
theorem ggX6_isWay_X6_in : GoodIn wsX6_isWay wsX6_in := goodIn_r _ [4] (by decide +kernel) (by decide +kernel)
set_option maxRecDepth 20000 in
theorem gX6_isWay_X6_in : GoodIn wsX6_isWay (va_wsS RX6 87 yX6_in wsX6_in) := goodIn_app (goodIn_of _ (by decide +kernel)) ggX6_isWay_X6_in
theorem dX6_isWay_0 : decode cX6_isWay 0 = .ok (.iload_n 0, 1) := by decide +kernel
theorem dX6_isWay_1 : decode cX6_isWay 1 = .ok (.iconst 0, 1) := by decide +kernel
theorem dX6_isWay_2 : decode cX6_isWay 2 = .ok (.bipush 7, 2) := by decide +kernel
theorem dX6_isWay_4 : decode cX6_isWay 4 = .ok (.invokestatic 87, 3) := by decide +kernel
theorem dX6_isWay_7 : decode cX6_isWay 7 = .ok (.ireturn, 1) := by decide +kernel
set_option maxRecDepth 20000 in
theorem ggX6_speed_X6_isShip : GoodIn wsX6_speed wsX6_isShip := goodIn_r _ [5, 6, 7, 8, 4, 9, 19, 20, 21, 22, 23, 24, 25, 26, 27, 28, 29, 30, 31, 32, 33, 34, 35, 36, 37, 38, 39, 40, 41, 42, 43, 44, 45, 46, 47, 48, 49] (by decide +kernel) (by decide +kernel)
set_option maxRecDepth 20000 in
theorem gX6_speed_X6_isShip : GoodIn wsX6_speed (wsV RX6 116 RX6 yX6_isShip wsX6_isShip) := goodIn_app (goodIn_of _ (by decide +kernel)) ggX6_speed_X6_isShip
set_option maxRecDepth 20000 in
theorem ggX6_speed_X6_isWay : GoodIn wsX6_speed wsX6_isWay := goodIn_r _ [12, 7, 8, 4, 9] (by decide +kernel) (by decide +kernel)
set_option maxRecDepth 20000 in
theorem gX6_speed_X6_isWay : GoodIn wsX6_speed (va_wsS RX6 133 yX6_isWay wsX6_isWay) := goodIn_app (goodIn_of _ (by decide +kernel)) ggX6_speed_X6_isWay
set_option maxRecDepth 20000 in
theorem ggX6_speed_X6_in : GoodIn wsX6_speed wsX6_in := goodIn_r _ [9] (by decide +kernel) (by decide +kernel)
set_option maxRecDepth 20000 in
theorem gX6_speed_X6_in : GoodIn wsX6_speed (va_wsS RX6 87 yX6_in wsX6_in) := goodIn_app (goodIn_of _ (by decide +kernel)) ggX6_speed_X6_in
set_option maxRecDepth 20000 in
theorem ggX6_speed_X6_speedOf : GoodIn wsX6_speed wsX6_speedOf := goodIn_r _ [16, 17, 18, 19, 20, 21, 22, 23, 24, 25, 26, 27, 28, 29, 30, 31, 32, 33, 34, 35, 36, 37, 38, 39, 40, 41, 42, 43, 44, 45, 46, 47, 48, 49] (by decide +kernel) (by decide +kernel)
set_option maxRecDepth 20000 in
theorem gX6_speed_X6_speedOf : GoodIn wsX6_speed (wsV RX6 129 RX6 yX6_speedOf wsX6_speedOf) := goodIn_app (goodIn_of _ (by decide +kernel)) ggX6_speed_X6_speedOf
theorem dX6_speed_0 : decode cX6_speed 0 = .ok (.aload_n 0, 1) := by decide +kernel
theorem dX6_speed_1 : decode cX6_speed 1 = .ok (.iload_n 1, 1) := by decide +kernel
theorem dX6_speed_2 : decode cX6_speed 2 = .ok (.invokevirtual 116, 3) := by decide +kernel
theorem dX6_speed_5 : decode cX6_speed 5 = .ok (.ifCond .eq 40, 3) := by decide +kernel
theorem dX6_speed_8 : decode cX6_speed 8 = .ok (.iload_n 2, 1) := by decide +kernel
theorem dX6_speed_9 : decode cX6_speed 9 = .ok (.invokestatic 133, 3) := by decide +kernel
theorem dX6_speed_12 : decode cX6_speed 12 = .ok (.ifCond .eq 33, 3) := by decide +kernel
theorem dX6_speed_15 : decode cX6_speed 15 = .ok (.iload_n 3, 1) := by decide +kernel
theorem dX6_speed_16 : decode cX6_speed 16 = .ok (.invokestatic 133, 3) := by decide +kernel
theorem dX6_speed_19 : decode cX6_speed 19 = .ok (.ifCond .eq 26, 3) := by decide +kernel
theorem dX6_speed_22 : decode cX6_speed 22 = .ok (.iload 4, 2) := by decide +kernel
theorem dX6_speed_24 : decode cX6_speed 24 = .ok (.iconst 0, 1) := by decide +kernel
theorem dX6_speed_25 : decode cX6_speed 25 = .ok (.bipush 9, 2) := by decide +kernel
theorem dX6_speed_27 : decode cX6_speed 27 = .ok (.invokestatic 87, 3) := by decide +kernel
theorem dX6_speed_30 : decode cX6_speed 30 = .ok (.ifCond .eq 15, 3) := by decide +kernel
theorem dX6_speed_33 : decode cX6_speed 33 = .ok (.aload_n 0, 1) := by decide +kernel
theorem dX6_speed_34 : decode cX6_speed 34 = .ok (.iload_n 1, 1) := by decide +kernel
theorem dX6_speed_35 : decode cX6_speed 35 = .ok (.iload_n 2, 1) := by decide +kernel
theorem dX6_speed_36 : decode cX6_speed 36 = .ok (.iload_n 3, 1) := by decide +kernel
theorem dX6_speed_37 : decode cX6_speed 37 = .ok (.iload 4, 2) := by decide +kernel
theorem dX6_speed_39 : decode cX6_speed 39 = .ok (.invokevirtual 129, 3) := by decide +kernel
theorem dX6_speed_42 : decode cX6_speed 42 = .ok (.goto 4, 3) := by decide +kernel
theorem dX6_speed_45 : decode cX6_speed 45 = .ok (.iconst (-1), 1) := by decide +kernel
theorem dX6_speed_46 : decode cX6_speed 46 = .ok (.ireturn, 1) := by decide +kernel
set_option maxRecDepth 20000 in
theorem ggX6_order_X6_isShip : GoodIn wsX6_order wsX6_isShip := goodIn_r _ [7, 8, 9, 10, 6, 11, 15, 16, 17, 18, 19, 20, 21, 22, 23, 24, 25, 26, 27, 28, 29, 30, 31, 32, 33, 34, 35, 36, 37, 38, 39, 40, 41, 42, 43, 44, 45] (by decide +kernel) (by decide +kernel)
set_option maxRecDepth 20000 in
theorem gX6_order_X6_isShip : GoodIn wsX6_order (wsV RX6 116 RX6 yX6_isShip wsX6_isShip) := goodIn_app (goodIn_of _ (by decide +kernel)) ggX6_order_X6_isShip
set_option maxRecDepth 20000 in
theorem ggX6_order_X6_in : GoodIn wsX6_order wsX6_in := goodIn_r _ [11] (by decide +kernel) (by decide +kernel)
set_option maxRecDepth 20000 in
theorem gX6_order_X6_in : GoodIn wsX6_order (va_wsS RX6 87 yX6_in wsX6_in) := goodIn_app (goodIn_of _ (by decide +kernel)) ggX6_order_X6_in
set_option maxRecDepth 20000 in
theorem ggX6_order_X6_isWay : GoodIn wsX6_order wsX6_isWay := goodIn_r _ [14, 9, 10, 6, 11] (by decide +kernel) (by decide +kernel)
set_option maxRecDepth 20000 in
theorem gX6_order_X6_isWay : GoodIn wsX6_order (va_wsS RX6 133 yX6_isWay wsX6_isWay) := goodIn_app (goodIn_of _ (by decide +kernel)) ggX6_order_X6_isWay
theorem dX6_order_0 : decode cX6_order 0 = .ok (.aload_n 0, 1) := by decide +kernel
theorem dX6_order_1 : decode cX6_order 1 = .ok (.iload_n 1, 1) := by decide +kernel
theorem dX6_order_2 : decode cX6_order 2 = .ok (.invokevirtual 116, 3) := by decide +kernel
theorem dX6_order_5 : decode cX6_order 5 = .ok (.ifCond .eq 65, 3) := by decide +kernel
theorem dX6_order_8 : decode cX6_order 8 = .ok (.iload_n 2, 1) := by decide +kernel
theorem dX6_order_9 : decode cX6_order 9 = .ok (.iconst 0, 1) := by decide +kernel
theorem dX6_order_10 : decode cX6_order 10 = .ok (.bipush 15, 2) := by decide +kernel
theorem dX6_order_12 : decode cX6_order 12 = .ok (.invokestatic 87, 3) := by decide +kernel
theorem dX6_order_15 : decode cX6_order 15 = .ok (.ifCond .eq 55, 3) := by decide +kernel
theorem dX6_order_18 : decode cX6_order 18 = .ok (.iload_n 3, 1) := by decide +kernel
theorem dX6_order_19 : decode cX6_order 19 = .ok (.iload_n 2, 1) := by decide +kernel
theorem dX6_order_20 : decode cX6_order 20 = .ok (.bipush 15, 2) := by decide +kernel
theorem dX6_order_22 : decode cX6_order 22 = .ok (.invokestatic 87, 3) := by decide +kernel
theorem dX6_order_25 : decode cX6_order 25 = .ok (.ifCond .eq 45, 3) := by decide +kernel
theorem dX6_order_28 : decode cX6_order 28 = .ok (.iload 4, 2) := by decide +kernel
theorem dX6_order_30 : decode cX6_order 30 = .ok (.iconst 0, 1) := by decide +kernel
theorem dX6_order_31 : decode cX6_order 31 = .ok (.bipush 9, 2) := by decide +kernel
theorem dX6_order_33 : decode cX6_order 33 = .ok (.invokestatic 87, 3) := by decide +kernel
theorem dX6_order_36 : decode cX6_order 36 = .ok (.ifCond .eq 34, 3) := by decide +kernel
theorem dX6_order_39 : decode cX6_order 39 = .ok (.iload 5, 2) := by decide +kernel
theorem dX6_order_41 : decode cX6_order 41 = .ok (.iload 4, 2) := by decide +kernel
theorem dX6_order_43 : decode cX6_order 43 = .ok (.bipush 9, 2) := by decide +kernel
theorem dX6_order_45 : decode cX6_order 45 = .ok (.invokestatic 87, 3) := by decide +kernel
theorem dX6_order_48 : decode cX6_order 48 = .ok (.ifCond .eq 22, 3) := by decide +kernel
theorem dX6_order_51 : decode cX6_order 51 = .ok (.iload 6, 2) := by decide +kernel
theorem dX6_order_53 : decode cX6_order 53 = .ok (.iconst 0, 1) := by decide +kernel
theorem dX6_order_54 : decode cX6_order 54 = .ok (.bipush 9, 2) := by decide +kernel
theorem dX6_order_56 : decode cX6_order 56 = .ok (.invokestatic 87, 3) := by decide +kernel
theorem dX6_order_59 : decode cX6_order 59 = .ok (.ifCond .eq 11, 3) := by decide +kernel
theorem dX6_order_62 : decode cX6_order 62 = .ok (.iload 7, 2) := by decide +kernel
theorem dX6_order_64 : decode cX6_order 64 = .ok (.invokestatic 133, 3) := by decide +kernel
theorem dX6_order_67 : decode cX6_order 67 = .ok (.ifCond .ne 5, 3) := by decide +kernel
theorem dX6_order_70 : decode cX6_order 70 = .ok (.iconst (-1), 1) := by decide +kernel
theorem dX6_order_71 : decode cX6_order 71 = .ok (.ireturn, 1) := by decide +kernel
theorem dX6_order_72 : decode cX6_order 72 = .ok (.aload_n 0, 1) := by decide +kernel
theorem dX6_order_73 : decode cX6_order 73 = .ok (.getfield 50, 3) := by decide +kernel
theorem dX6_order_76 : decode cX6_order 76 = .ok (.iload_n 1, 1) := by decide +kernel
theorem dX6_order_77 : decode cX6_order 77 = .ok (.iaload, 1) := by decide +kernel
theorem dX6_order_78 : decode cX6_order 78 = .ok (.bipush 20, 2) := by decide +kernel
theorem dX6_order_80 : decode cX6_order 80 = .ok (.if_icmp .ne 6, 3) := by decide +kernel
theorem dX6_order_83 : decode cX6_order 83 = .ok (.bipush (-2), 2) := by decide +kernel
theorem dX6_order_85 : decode cX6_order 85 = .ok (.ireturn, 1) := by decide +kernel
theorem dX6_order_86 : decode cX6_order 86 = .ok (.bipush 120, 2) := by decide +kernel
theorem dX6_order_88 : decode cX6_order 88 = .ok (.iload_n 1, 1) := by decide +kernel
theorem dX6_order_89 : decode cX6_order 89 = .ok (.imul, 1) := by decide +kernel
theorem dX6_order_90 : decode cX6_order 90 = .ok (.bipush 6, 2) := by decide +kernel
theorem dX6_order_92 : decode cX6_order 92 = .ok (.aload_n 0, 1) := by decide +kernel
theorem dX6_order_93 : decode cX6_order 93 = .ok (.getfield 50, 3) := by decide +kernel
theorem dX6_order_96 : decode cX6_order 96 = .ok (.iload_n 1, 1) := by decide +kernel
theorem dX6_order_97 : decode cX6_order 97 = .ok (.iaload, 1) := by decide +kernel
theorem dX6_order_98 : decode cX6_order 98 = .ok (.imul, 1) := by decide +kernel
theorem dX6_order_99 : decode cX6_order 99 = .ok (.iadd, 1) := by decide +kernel
theorem dX6_order_100 : decode cX6_order 100 = .ok (.istore 8, 2) := by decide +kernel
theorem dX6_order_102 : decode cX6_order 102 = .ok (.aload_n 0, 1) := by decide +kernel
theorem dX6_order_103 : decode cX6_order 103 = .ok (.getfield 53, 3) := by decide +kernel
theorem dX6_order_106 : decode cX6_order 106 = .ok (.iload 8, 2) := by decide +kernel
theorem dX6_order_108 : decode cX6_order 108 = .ok (.iload_n 2, 1) := by decide +kernel
theorem dX6_order_109 : decode cX6_order 109 = .ok (.iastore, 1) := by decide +kernel
theorem dX6_order_110 : decode cX6_order 110 = .ok (.aload_n 0, 1) := by decide +kernel
theorem dX6_order_111 : decode cX6_order 111 = .ok (.getfield 53, 3) := by decide +kernel
theorem dX6_order_114 : decode cX6_order 114 = .ok (.iload 8, 2) := by decide +kernel
theorem dX6_order_116 : decode cX6_order 116 = .ok (.iconst 1, 1) := by decide +kernel
theorem dX6_order_117 : decode cX6_order 117 = .ok (.iadd, 1) := by decide +kernel
theorem dX6_order_118 : decode cX6_order 118 = .ok (.iload_n 3, 1) := by decide +kernel
theorem dX6_order_119 : decode cX6_order 119 = .ok (.iastore, 1) := by decide +kernel
theorem dX6_order_120 : decode cX6_order 120 = .ok (.aload_n 0, 1) := by decide +kernel
theorem dX6_order_121 : decode cX6_order 121 = .ok (.getfield 53, 3) := by decide +kernel
theorem dX6_order_124 : decode cX6_order 124 = .ok (.iload 8, 2) := by decide +kernel
theorem dX6_order_126 : decode cX6_order 126 = .ok (.iconst 2, 1) := by decide +kernel
theorem dX6_order_127 : decode cX6_order 127 = .ok (.iadd, 1) := by decide +kernel
theorem dX6_order_128 : decode cX6_order 128 = .ok (.iload 4, 2) := by decide +kernel
theorem dX6_order_130 : decode cX6_order 130 = .ok (.iastore, 1) := by decide +kernel
theorem dX6_order_131 : decode cX6_order 131 = .ok (.aload_n 0, 1) := by decide +kernel
theorem dX6_order_132 : decode cX6_order 132 = .ok (.getfield 53, 3) := by decide +kernel
theorem dX6_order_135 : decode cX6_order 135 = .ok (.iload 8, 2) := by decide +kernel
theorem dX6_order_137 : decode cX6_order 137 = .ok (.iconst 3, 1) := by decide +kernel
theorem dX6_order_138 : decode cX6_order 138 = .ok (.iadd, 1) := by decide +kernel
theorem dX6_order_139 : decode cX6_order 139 = .ok (.iload 5, 2) := by decide +kernel
theorem dX6_order_141 : decode cX6_order 141 = .ok (.iastore, 1) := by decide +kernel
theorem dX6_order_142 : decode cX6_order 142 = .ok (.aload_n 0, 1) := by decide +kernel
theorem dX6_order_143 : decode cX6_order 143 = .ok (.getfield 53, 3) := by decide +kernel
theorem dX6_order_146 : decode cX6_order 146 = .ok (.iload 8, 2) := by decide +kernel
theorem dX6_order_148 : decode cX6_order 148 = .ok (.iconst 4, 1) := by decide +kernel
theorem dX6_order_149 : decode cX6_order 149 = .ok (.iadd, 1) := by decide +kernel
theorem dX6_order_150 : decode cX6_order 150 = .ok (.iload 6, 2) := by decide +kernel
theorem dX6_order_152 : decode cX6_order 152 = .ok (.iastore, 1) := by decide +kernel
theorem dX6_order_153 : decode cX6_order 153 = .ok (.aload_n 0, 1) := by decide +kernel
theorem dX6_order_154 : decode cX6_order 154 = .ok (.getfield 53, 3) := by decide +kernel
theorem dX6_order_157 : decode cX6_order 157 = .ok (.iload 8, 2) := by decide +kernel
theorem dX6_order_159 : decode cX6_order 159 = .ok (.iconst 5, 1) := by decide +kernel
theorem dX6_order_160 : decode cX6_order 160 = .ok (.iadd, 1) := by decide +kernel
theorem dX6_order_161 : decode cX6_order 161 = .ok (.iload 7, 2) := by decide +kernel
theorem dX6_order_163 : decode cX6_order 163 = .ok (.iastore, 1) := by decide +kernel
theorem dX6_order_164 : decode cX6_order 164 = .ok (.aload_n 0, 1) := by decide +kernel
theorem dX6_order_165 : decode cX6_order 165 = .ok (.getfield 50, 3) := by decide +kernel
theorem dX6_order_168 : decode cX6_order 168 = .ok (.iload_n 1, 1) := by decide +kernel
theorem dX6_order_169 : decode cX6_order 169 = .ok (.dup2, 1) := by decide +kernel
theorem dX6_order_170 : decode cX6_order 170 = .ok (.iaload, 1) := by decide +kernel
theorem dX6_order_171 : decode cX6_order 171 = .ok (.iconst 1, 1) := by decide +kernel
theorem dX6_order_172 : decode cX6_order 172 = .ok (.iadd, 1) := by decide +kernel
theorem dX6_order_173 : decode cX6_order 173 = .ok (.iastore, 1) := by decide +kernel
theorem dX6_order_174 : decode cX6_order 174 = .ok (.aload_n 0, 1) := by decide +kernel
theorem dX6_order_175 : decode cX6_order 175 = .ok (.getfield 50, 3) := by decide +kernel
theorem dX6_order_178 : decode cX6_order 178 = .ok (.iload_n 1, 1) := by decide +kernel
theorem dX6_order_179 : decode cX6_order 179 = .ok (.iaload, 1) := by decide +kernel
theorem dX6_order_180 : decode cX6_order 180 = .ok (.ireturn, 1) := by decide +kernel
set_option maxRecDepth 20000 in
theorem ggX6_home_X6_isCell : GoodIn wsX6_home wsX6_isCell := goodIn_r _ [8, 9, 10, 7, 11] (by decide +kernel) (by decide +kernel)
set_option maxRecDepth 20000 in
theorem gX6_home_X6_isCell : GoodIn wsX6_home (va_wsS RX6 91 yX6_isCell wsX6_isCell) := goodIn_app (goodIn_of _ (by decide +kernel)) ggX6_home_X6_isCell
set_option maxRecDepth 20000 in
theorem ggX6_home_X6_in : GoodIn wsX6_home wsX6_in := goodIn_r _ [11] (by decide +kernel) (by decide +kernel)
set_option maxRecDepth 20000 in
theorem gX6_home_X6_in : GoodIn wsX6_home (va_wsS RX6 87 yX6_in wsX6_in) := goodIn_app (goodIn_of _ (by decide +kernel)) ggX6_home_X6_in
theorem dX6_home_0 : decode cX6_home 0 = .ok (.iload_n 1, 1) := by decide +kernel
theorem dX6_home_1 : decode cX6_home 1 = .ok (.invokestatic 91, 3) := by decide +kernel
theorem dX6_home_4 : decode cX6_home 4 = .ok (.ifCond .eq 22, 3) := by decide +kernel
theorem dX6_home_7 : decode cX6_home 7 = .ok (.aload_n 0, 1) := by decide +kernel
theorem dX6_home_8 : decode cX6_home 8 = .ok (.getfield 13, 3) := by decide +kernel
theorem dX6_home_11 : decode cX6_home 11 = .ok (.iload_n 1, 1) := by decide +kernel
theorem dX6_home_12 : decode cX6_home 12 = .ok (.baload, 1) := by decide +kernel
theorem dX6_home_13 : decode cX6_home 13 = .ok (.ifCond .ne 13, 3) := by decide +kernel
theorem dX6_home_16 : decode cX6_home 16 = .ok (.iload_n 2, 1) := by decide +kernel
theorem dX6_home_17 : decode cX6_home 17 = .ok (.iconst 0, 1) := by decide +kernel
theorem dX6_home_18 : decode cX6_home 18 = .ok (.bipush 23, 2) := by decide +kernel
theorem dX6_home_20 : decode cX6_home 20 = .ok (.invokestatic 87, 3) := by decide +kernel
theorem dX6_home_23 : decode cX6_home 23 = .ok (.ifCond .ne 5, 3) := by decide +kernel
theorem dX6_home_26 : decode cX6_home 26 = .ok (.iconst (-1), 1) := by decide +kernel
theorem dX6_home_27 : decode cX6_home 27 = .ok (.ireturn, 1) := by decide +kernel
theorem dX6_home_28 : decode cX6_home 28 = .ok (.aload_n 0, 1) := by decide +kernel
theorem dX6_home_29 : decode cX6_home 29 = .ok (.getfield 113, 3) := by decide +kernel
theorem dX6_home_32 : decode cX6_home 32 = .ok (.ifCond .eq 6, 3) := by decide +kernel
theorem dX6_home_35 : decode cX6_home 35 = .ok (.bipush (-4), 2) := by decide +kernel
theorem dX6_home_37 : decode cX6_home 37 = .ok (.ireturn, 1) := by decide +kernel
theorem dX6_home_38 : decode cX6_home 38 = .ok (.aload_n 0, 1) := by decide +kernel
theorem dX6_home_39 : decode cX6_home 39 = .ok (.iload_n 1, 1) := by decide +kernel
theorem dX6_home_40 : decode cX6_home 40 = .ok (.putfield 136, 3) := by decide +kernel
theorem dX6_home_43 : decode cX6_home 43 = .ok (.aload_n 0, 1) := by decide +kernel
theorem dX6_home_44 : decode cX6_home 44 = .ok (.iload_n 2, 1) := by decide +kernel
theorem dX6_home_45 : decode cX6_home 45 = .ok (.putfield 119, 3) := by decide +kernel
theorem dX6_home_48 : decode cX6_home 48 = .ok (.iconst 1, 1) := by decide +kernel
theorem dX6_home_49 : decode cX6_home 49 = .ok (.ireturn, 1) := by decide +kernel
set_option maxRecDepth 20000 in
theorem ggX6_ask_X6_windAt : GoodIn wsX6_ask wsX6_windAt := goodIn_r _ [10, 11, 12, 13, 14, 9, 15, 16, 17, 18, 19, 20, 21, 22, 23, 24, 25, 26, 27, 28, 29, 30, 31, 32, 33, 34, 35, 36, 37, 38, 39, 40, 41, 42, 43, 44, 45, 46] (by decide +kernel) (by decide +kernel)
set_option maxRecDepth 20000 in
theorem gX6_ask_X6_windAt : GoodIn wsX6_ask (wsV RX6 139 RX6 yX6_windAt wsX6_windAt) := goodIn_app (goodIn_of _ (by decide +kernel)) ggX6_ask_X6_windAt
set_option maxRecDepth 20000 in
theorem ggX6_ask_X6_in : GoodIn wsX6_ask wsX6_in := goodIn_r _ [15] (by decide +kernel) (by decide +kernel)
set_option maxRecDepth 20000 in
theorem gX6_ask_X6_in : GoodIn wsX6_ask (va_wsS RX6 87 yX6_in wsX6_in) := goodIn_app (goodIn_of _ (by decide +kernel)) ggX6_ask_X6_in
theorem dX6_ask_0 : decode cX6_ask 0 = .ok (.aload_n 0, 1) := by decide +kernel
theorem dX6_ask_1 : decode cX6_ask 1 = .ok (.aload_n 0, 1) := by decide +kernel
theorem dX6_ask_2 : decode cX6_ask 2 = .ok (.getfield 29, 3) := by decide +kernel
theorem dX6_ask_5 : decode cX6_ask 5 = .ok (.iload_n 1, 1) := by decide +kernel
theorem dX6_ask_6 : decode cX6_ask 6 = .ok (.iaload, 1) := by decide +kernel
theorem dX6_ask_7 : decode cX6_ask 7 = .ok (.aload_n 0, 1) := by decide +kernel
theorem dX6_ask_8 : decode cX6_ask 8 = .ok (.getfield 113, 3) := by decide +kernel
theorem dX6_ask_11 : decode cX6_ask 11 = .ok (.invokevirtual 139, 3) := by decide +kernel
theorem dX6_ask_14 : decode cX6_ask 14 = .ok (.bipush 10, 2) := by decide +kernel
theorem dX6_ask_16 : decode cX6_ask 16 = .ok (.irem, 1) := by decide +kernel
theorem dX6_ask_17 : decode cX6_ask 17 = .ok (.istore_n 2, 1) := by decide +kernel
theorem dX6_ask_18 : decode cX6_ask 18 = .ok (.iconst 0, 1) := by decide +kernel
theorem dX6_ask_19 : decode cX6_ask 19 = .ok (.istore_n 3, 1) := by decide +kernel
theorem dX6_ask_20 : decode cX6_ask 20 = .ok (.iload_n 3, 1) := by decide +kernel
theorem dX6_ask_21 : decode cX6_ask 21 = .ok (.aload_n 0, 1) := by decide +kernel
theorem dX6_ask_22 : decode cX6_ask 22 = .ok (.getfield 50, 3) := by decide +kernel
theorem dX6_ask_25 : decode cX6_ask 25 = .ok (.iload_n 1, 1) := by decide +kernel
theorem dX6_ask_26 : decode cX6_ask 26 = .ok (.iaload, 1) := by decide +kernel
theorem dX6_ask_27 : decode cX6_ask 27 = .ok (.if_icmp .ge 113, 3) := by decide +kernel
theorem dX6_ask_30 : decode cX6_ask 30 = .ok (.bipush 120, 2) := by decide +kernel
theorem dX6_ask_32 : decode cX6_ask 32 = .ok (.iload_n 1, 1) := by decide +kernel
theorem dX6_ask_33 : decode cX6_ask 33 = .ok (.imul, 1) := by decide +kernel
theorem dX6_ask_34 : decode cX6_ask 34 = .ok (.bipush 6, 2) := by decide +kernel
theorem dX6_ask_36 : decode cX6_ask 36 = .ok (.iload_n 3, 1) := by decide +kernel
theorem dX6_ask_37 : decode cX6_ask 37 = .ok (.imul, 1) := by decide +kernel
theorem dX6_ask_38 : decode cX6_ask 38 = .ok (.iadd, 1) := by decide +kernel
theorem dX6_ask_39 : decode cX6_ask 39 = .ok (.istore 4, 2) := by decide +kernel
theorem dX6_ask_41 : decode cX6_ask 41 = .ok (.aload_n 0, 1) := by decide +kernel
theorem dX6_ask_42 : decode cX6_ask 42 = .ok (.getfield 29, 3) := by decide +kernel
theorem dX6_ask_45 : decode cX6_ask 45 = .ok (.iload_n 1, 1) := by decide +kernel
theorem dX6_ask_46 : decode cX6_ask 46 = .ok (.iaload, 1) := by decide +kernel
theorem dX6_ask_47 : decode cX6_ask 47 = .ok (.bipush 16, 2) := by decide +kernel
theorem dX6_ask_49 : decode cX6_ask 49 = .ok (.irem, 1) := by decide +kernel
theorem dX6_ask_50 : decode cX6_ask 50 = .ok (.aload_n 0, 1) := by decide +kernel
theorem dX6_ask_51 : decode cX6_ask 51 = .ok (.getfield 53, 3) := by decide +kernel
theorem dX6_ask_54 : decode cX6_ask 54 = .ok (.iload 4, 2) := by decide +kernel
theorem dX6_ask_56 : decode cX6_ask 56 = .ok (.iaload, 1) := by decide +kernel
theorem dX6_ask_57 : decode cX6_ask 57 = .ok (.aload_n 0, 1) := by decide +kernel
theorem dX6_ask_58 : decode cX6_ask 58 = .ok (.getfield 53, 3) := by decide +kernel
theorem dX6_ask_61 : decode cX6_ask 61 = .ok (.iload 4, 2) := by decide +kernel
theorem dX6_ask_63 : decode cX6_ask 63 = .ok (.iconst 1, 1) := by decide +kernel
theorem dX6_ask_64 : decode cX6_ask 64 = .ok (.iadd, 1) := by decide +kernel
theorem dX6_ask_65 : decode cX6_ask 65 = .ok (.iaload, 1) := by decide +kernel
theorem dX6_ask_66 : decode cX6_ask 66 = .ok (.invokestatic 87, 3) := by decide +kernel
theorem dX6_ask_69 : decode cX6_ask 69 = .ok (.ifCond .eq 65, 3) := by decide +kernel
theorem dX6_ask_72 : decode cX6_ask 72 = .ok (.aload_n 0, 1) := by decide +kernel
theorem dX6_ask_73 : decode cX6_ask 73 = .ok (.getfield 29, 3) := by decide +kernel
theorem dX6_ask_76 : decode cX6_ask 76 = .ok (.iload_n 1, 1) := by decide +kernel
theorem dX6_ask_77 : decode cX6_ask 77 = .ok (.iaload, 1) := by decide +kernel
theorem dX6_ask_78 : decode cX6_ask 78 = .ok (.bipush 16, 2) := by decide +kernel
theorem dX6_ask_80 : decode cX6_ask 80 = .ok (.idiv, 1) := by decide +kernel
theorem dX6_ask_81 : decode cX6_ask 81 = .ok (.aload_n 0, 1) := by decide +kernel
theorem dX6_ask_82 : decode cX6_ask 82 = .ok (.getfield 53, 3) := by decide +kernel
theorem dX6_ask_85 : decode cX6_ask 85 = .ok (.iload 4, 2) := by decide +kernel
theorem dX6_ask_87 : decode cX6_ask 87 = .ok (.iconst 2, 1) := by decide +kernel
theorem dX6_ask_88 : decode cX6_ask 88 = .ok (.iadd, 1) := by decide +kernel
theorem dX6_ask_89 : decode cX6_ask 89 = .ok (.iaload, 1) := by decide +kernel
theorem dX6_ask_90 : decode cX6_ask 90 = .ok (.aload_n 0, 1) := by decide +kernel
theorem dX6_ask_91 : decode cX6_ask 91 = .ok (.getfield 53, 3) := by decide +kernel
theorem dX6_ask_94 : decode cX6_ask 94 = .ok (.iload 4, 2) := by decide +kernel
theorem dX6_ask_96 : decode cX6_ask 96 = .ok (.iconst 3, 1) := by decide +kernel
theorem dX6_ask_97 : decode cX6_ask 97 = .ok (.iadd, 1) := by decide +kernel
theorem dX6_ask_98 : decode cX6_ask 98 = .ok (.iaload, 1) := by decide +kernel
theorem dX6_ask_99 : decode cX6_ask 99 = .ok (.invokestatic 87, 3) := by decide +kernel
theorem dX6_ask_102 : decode cX6_ask 102 = .ok (.ifCond .eq 32, 3) := by decide +kernel
theorem dX6_ask_105 : decode cX6_ask 105 = .ok (.iload_n 2, 1) := by decide +kernel
theorem dX6_ask_106 : decode cX6_ask 106 = .ok (.aload_n 0, 1) := by decide +kernel
theorem dX6_ask_107 : decode cX6_ask 107 = .ok (.getfield 53, 3) := by decide +kernel
theorem dX6_ask_110 : decode cX6_ask 110 = .ok (.iload 4, 2) := by decide +kernel
theorem dX6_ask_112 : decode cX6_ask 112 = .ok (.iconst 4, 1) := by decide +kernel
theorem dX6_ask_113 : decode cX6_ask 113 = .ok (.iadd, 1) := by decide +kernel
theorem dX6_ask_114 : decode cX6_ask 114 = .ok (.iaload, 1) := by decide +kernel
theorem dX6_ask_115 : decode cX6_ask 115 = .ok (.if_icmp .lt 19, 3) := by decide +kernel
theorem dX6_ask_118 : decode cX6_ask 118 = .ok (.aload_n 0, 1) := by decide +kernel
theorem dX6_ask_119 : decode cX6_ask 119 = .ok (.getfield 35, 3) := by decide +kernel
theorem dX6_ask_122 : decode cX6_ask 122 = .ok (.iload_n 1, 1) := by decide +kernel
theorem dX6_ask_123 : decode cX6_ask 123 = .ok (.aload_n 0, 1) := by decide +kernel
theorem dX6_ask_124 : decode cX6_ask 124 = .ok (.getfield 53, 3) := by decide +kernel
theorem dX6_ask_127 : decode cX6_ask 127 = .ok (.iload 4, 2) := by decide +kernel
theorem dX6_ask_129 : decode cX6_ask 129 = .ok (.iconst 5, 1) := by decide +kernel
theorem dX6_ask_130 : decode cX6_ask 130 = .ok (.iadd, 1) := by decide +kernel
theorem dX6_ask_131 : decode cX6_ask 131 = .ok (.iaload, 1) := by decide +kernel
theorem dX6_ask_132 : decode cX6_ask 132 = .ok (.iastore, 1) := by decide +kernel
theorem dX6_ask_133 : decode cX6_ask 133 = .ok (.return_, 1) := by decide +kernel
theorem dX6_ask_134 : decode cX6_ask 134 = .ok (.iinc 3 1, 3) := by decide +kernel
theorem dX6_ask_137 : decode cX6_ask 137 = .ok (.goto (-117), 3) := by decide +kernel
theorem dX6_ask_140 : decode cX6_ask 140 = .ok (.return_, 1) := by decide +kernel
set_option maxRecDepth 20000 in
theorem ggX6_go_X6_ask : GoodIn wsX6_go wsX6_ask := goodIn_r _ [12, 1, 2, 13, 14, 4, 15, 16, 17, 11, 18, 19, 20, 21, 22, 23, 38, 39, 40, 41, 42, 43, 44, 45, 46, 47, 48, 49, 50, 51, 52, 53, 54, 55, 56, 57, 58, 59, 60, 61, 62, 63, 64, 65, 66, 67, 68] (by decide +kernel) (by decide +kernel)
set_option maxRecDepth 20000 in
theorem gX6_go_X6_ask : GoodIn wsX6_go (wsV RX6 142 RX6 yX6_ask wsX6_ask) := goodIn_app (goodIn_of _ (by decide +kernel)) ggX6_go_X6_ask
set_option maxRecDepth 20000 in
theorem ggX6_go_X6_windAt : GoodIn wsX6_go wsX6_windAt := goodIn_r _ [18, 19, 20, 21, 22, 11, 23, 38, 39, 40, 41, 42, 43, 44, 45, 46, 47, 48, 49, 50, 51, 52, 53, 54, 55, 56, 57, 58, 59, 60, 61, 62, 63, 64, 65, 66, 67, 68] (by decide +kernel) (by decide +kernel)
set_option maxRecDepth 20000 in
theorem gX6_go_X6_windAt : GoodIn wsX6_go (wsV RX6 139 RX6 yX6_windAt wsX6_windAt) := goodIn_app (goodIn_of _ (by decide +kernel)) ggX6_go_X6_windAt
end
section
set_option maxRecDepth 20000 in
theorem ggX6_go_X6_speedOf : GoodIn wsX6_go wsX6_speedOf := goodIn_r _ [27, 28, 29, 38, 39, 40, 41, 42, 43, 44, 45, 46, 47, 48, 49, 50, 51, 52, 53, 54, 55, 56, 57, 58, 59, 60, 61, 62, 63, 64, 65, 66, 67, 68] (by decide +kernel) (by decide +kernel)
set_option maxRecDepth 20000 in
theorem gX6_go_X6_speedOf : GoodIn wsX6_go (wsV RX6 129 RX6 yX6_speedOf wsX6_speedOf) := goodIn_app (goodIn_of _ (by decide +kernel)) ggX6_go_X6_speedOf
set_option maxRecDepth 20000 in
theorem ggX6_go_X6_need : GoodIn wsX6_go wsX6_need := goodIn_r _ [32] (by decide +kernel) (by decide +kernel)
set_option maxRecDepth 20000 in
theorem gX6_go_X6_need : GoodIn wsX6_go (va_wsS RX6 146 yX6_need wsX6_need) := goodIn_app (goodIn_of _ (by decide +kernel)) ggX6_go_X6_need
set_option maxRecDepth 20000 in
theorem ggX6_go_X6_nextCell : GoodIn wsX6_go wsX6_nextCell := goodIn_r _ [36, 37, 21, 22, 11, 23, 38, 39, 40, 41, 42, 43, 44, 45, 46, 47, 48, 49, 50, 51, 52, 53, 54, 55, 56, 57, 58, 59, 60, 61, 62, 63, 64, 65, 66, 67, 68] (by decide +kernel) (by decide +kernel)
set_option maxRecDepth 20000 in
theorem gX6_go_X6_nextCell : GoodIn wsX6_go (wsV RX6 149 RX6 yX6_nextCell wsX6_nextCell) := goodIn_app (goodIn_of _ (by decide +kernel)) ggX6_go_X6_nextCell
theorem dX6_go_0 : decode cX6_go 0 = .ok (.aload_n 0, 1) := by decide +kernel
theorem dX6_go_1 : decode cX6_go 1 = .ok (.iload_n 1, 1) := by decide +kernel
theorem dX6_go_2 : decode cX6_go 2 = .ok (.invokevirtual 142, 3) := by decide +kernel
theorem dX6_go_5 : decode cX6_go 5 = .ok (.aload_n 0, 1) := by decide +kernel
theorem dX6_go_6 : decode cX6_go 6 = .ok (.aload_n 0, 1) := by decide +kernel
theorem dX6_go_7 : decode cX6_go 7 = .ok (.getfield 29, 3) := by decide +kernel
theorem dX6_go_10 : decode cX6_go 10 = .ok (.iload_n 1, 1) := by decide +kernel
theorem dX6_go_11 : decode cX6_go 11 = .ok (.iaload, 1) := by decide +kernel
theorem dX6_go_12 : decode cX6_go 12 = .ok (.aload_n 0, 1) := by decide +kernel
theorem dX6_go_13 : decode cX6_go 13 = .ok (.getfield 113, 3) := by decide +kernel
theorem dX6_go_16 : decode cX6_go 16 = .ok (.invokevirtual 139, 3) := by decide +kernel
theorem dX6_go_19 : decode cX6_go 19 = .ok (.istore_n 2, 1) := by decide +kernel
theorem dX6_go_20 : decode cX6_go 20 = .ok (.aload_n 0, 1) := by decide +kernel
theorem dX6_go_21 : decode cX6_go 21 = .ok (.getfield 32, 3) := by decide +kernel
theorem dX6_go_24 : decode cX6_go 24 = .ok (.iload_n 1, 1) := by decide +kernel
theorem dX6_go_25 : decode cX6_go 25 = .ok (.dup2, 1) := by decide +kernel
theorem dX6_go_26 : decode cX6_go 26 = .ok (.iaload, 1) := by decide +kernel
theorem dX6_go_27 : decode cX6_go 27 = .ok (.aload_n 0, 1) := by decide +kernel
theorem dX6_go_28 : decode cX6_go 28 = .ok (.iload_n 1, 1) := by decide +kernel
theorem dX6_go_29 : decode cX6_go 29 = .ok (.aload_n 0, 1) := by decide +kernel
theorem dX6_go_30 : decode cX6_go 30 = .ok (.getfield 35, 3) := by decide +kernel
theorem dX6_go_33 : decode cX6_go 33 = .ok (.iload_n 1, 1) := by decide +kernel
theorem dX6_go_34 : decode cX6_go 34 = .ok (.iaload, 1) := by decide +kernel
theorem dX6_go_35 : decode cX6_go 35 = .ok (.iload_n 2, 1) := by decide +kernel
theorem dX6_go_36 : decode cX6_go 36 = .ok (.bipush 10, 2) := by decide +kernel
theorem dX6_go_38 : decode cX6_go 38 = .ok (.idiv, 1) := by decide +kernel
theorem dX6_go_39 : decode cX6_go 39 = .ok (.iload_n 2, 1) := by decide +kernel
theorem dX6_go_40 : decode cX6_go 40 = .ok (.bipush 10, 2) := by decide +kernel
theorem dX6_go_42 : decode cX6_go 42 = .ok (.irem, 1) := by decide +kernel
theorem dX6_go_43 : decode cX6_go 43 = .ok (.invokevirtual 129, 3) := by decide +kernel
theorem dX6_go_46 : decode cX6_go 46 = .ok (.iadd, 1) := by decide +kernel
theorem dX6_go_47 : decode cX6_go 47 = .ok (.iastore, 1) := by decide +kernel
theorem dX6_go_48 : decode cX6_go 48 = .ok (.aload_n 0, 1) := by decide +kernel
theorem dX6_go_49 : decode cX6_go 49 = .ok (.getfield 38, 3) := by decide +kernel
theorem dX6_go_52 : decode cX6_go 52 = .ok (.iload_n 1, 1) := by decide +kernel
theorem dX6_go_53 : decode cX6_go 53 = .ok (.iaload, 1) := by decide +kernel
theorem dX6_go_54 : decode cX6_go 54 = .ok (.bipush (-9), 2) := by decide +kernel
theorem dX6_go_56 : decode cX6_go 56 = .ok (.if_icmp .ne 116, 3) := by decide +kernel
theorem dX6_go_59 : decode cX6_go 59 = .ok (.aload_n 0, 1) := by decide +kernel
theorem dX6_go_60 : decode cX6_go 60 = .ok (.getfield 32, 3) := by decide +kernel
theorem dX6_go_63 : decode cX6_go 63 = .ok (.iload_n 1, 1) := by decide +kernel
theorem dX6_go_64 : decode cX6_go 64 = .ok (.iaload, 1) := by decide +kernel
theorem dX6_go_65 : decode cX6_go 65 = .ok (.aload_n 0, 1) := by decide +kernel
theorem dX6_go_66 : decode cX6_go 66 = .ok (.getfield 35, 3) := by decide +kernel
theorem dX6_go_69 : decode cX6_go 69 = .ok (.iload_n 1, 1) := by decide +kernel
theorem dX6_go_70 : decode cX6_go 70 = .ok (.iaload, 1) := by decide +kernel
theorem dX6_go_71 : decode cX6_go 71 = .ok (.invokestatic 146, 3) := by decide +kernel
theorem dX6_go_74 : decode cX6_go 74 = .ok (.if_icmp .lt 98, 3) := by decide +kernel
theorem dX6_go_77 : decode cX6_go 77 = .ok (.aload_n 0, 1) := by decide +kernel
theorem dX6_go_78 : decode cX6_go 78 = .ok (.aload_n 0, 1) := by decide +kernel
theorem dX6_go_79 : decode cX6_go 79 = .ok (.getfield 29, 3) := by decide +kernel
theorem dX6_go_82 : decode cX6_go 82 = .ok (.iload_n 1, 1) := by decide +kernel
theorem dX6_go_83 : decode cX6_go 83 = .ok (.iaload, 1) := by decide +kernel
theorem dX6_go_84 : decode cX6_go 84 = .ok (.aload_n 0, 1) := by decide +kernel
theorem dX6_go_85 : decode cX6_go 85 = .ok (.getfield 35, 3) := by decide +kernel
theorem dX6_go_88 : decode cX6_go 88 = .ok (.iload_n 1, 1) := by decide +kernel
theorem dX6_go_89 : decode cX6_go 89 = .ok (.iaload, 1) := by decide +kernel
theorem dX6_go_90 : decode cX6_go 90 = .ok (.invokevirtual 149, 3) := by decide +kernel
theorem dX6_go_93 : decode cX6_go 93 = .ok (.istore_n 3, 1) := by decide +kernel
theorem dX6_go_94 : decode cX6_go 94 = .ok (.iload_n 3, 1) := by decide +kernel
theorem dX6_go_95 : decode cX6_go 95 = .ok (.bipush (-9), 2) := by decide +kernel
theorem dX6_go_97 : decode cX6_go 97 = .ok (.if_icmp .ne 11, 3) := by decide +kernel
theorem dX6_go_100 : decode cX6_go 100 = .ok (.aload_n 0, 1) := by decide +kernel
theorem dX6_go_101 : decode cX6_go 101 = .ok (.getfield 32, 3) := by decide +kernel
theorem dX6_go_104 : decode cX6_go 104 = .ok (.iload_n 1, 1) := by decide +kernel
theorem dX6_go_105 : decode cX6_go 105 = .ok (.iconst 0, 1) := by decide +kernel
theorem dX6_go_106 : decode cX6_go 106 = .ok (.iastore, 1) := by decide +kernel
theorem dX6_go_107 : decode cX6_go 107 = .ok (.return_, 1) := by decide +kernel
theorem dX6_go_108 : decode cX6_go 108 = .ok (.aload_n 0, 1) := by decide +kernel
theorem dX6_go_109 : decode cX6_go 109 = .ok (.getfield 32, 3) := by decide +kernel
theorem dX6_go_112 : decode cX6_go 112 = .ok (.iload_n 1, 1) := by decide +kernel
theorem dX6_go_113 : decode cX6_go 113 = .ok (.dup2, 1) := by decide +kernel
theorem dX6_go_114 : decode cX6_go 114 = .ok (.iaload, 1) := by decide +kernel
theorem dX6_go_115 : decode cX6_go 115 = .ok (.aload_n 0, 1) := by decide +kernel
theorem dX6_go_116 : decode cX6_go 116 = .ok (.getfield 35, 3) := by decide +kernel
theorem dX6_go_119 : decode cX6_go 119 = .ok (.iload_n 1, 1) := by decide +kernel
theorem dX6_go_120 : decode cX6_go 120 = .ok (.iaload, 1) := by decide +kernel
theorem dX6_go_121 : decode cX6_go 121 = .ok (.invokestatic 146, 3) := by decide +kernel
theorem dX6_go_124 : decode cX6_go 124 = .ok (.isub, 1) := by decide +kernel
theorem dX6_go_125 : decode cX6_go 125 = .ok (.iastore, 1) := by decide +kernel
theorem dX6_go_126 : decode cX6_go 126 = .ok (.aload_n 0, 1) := by decide +kernel
theorem dX6_go_127 : decode cX6_go 127 = .ok (.getfield 29, 3) := by decide +kernel
theorem dX6_go_130 : decode cX6_go 130 = .ok (.iload_n 1, 1) := by decide +kernel
theorem dX6_go_131 : decode cX6_go 131 = .ok (.iload_n 3, 1) := by decide +kernel
theorem dX6_go_132 : decode cX6_go 132 = .ok (.iastore, 1) := by decide +kernel
theorem dX6_go_133 : decode cX6_go 133 = .ok (.aload_n 0, 1) := by decide +kernel
theorem dX6_go_134 : decode cX6_go 134 = .ok (.getfield 47, 3) := by decide +kernel
theorem dX6_go_137 : decode cX6_go 137 = .ok (.iload_n 1, 1) := by decide +kernel
theorem dX6_go_138 : decode cX6_go 138 = .ok (.dup2, 1) := by decide +kernel
theorem dX6_go_139 : decode cX6_go 139 = .ok (.iaload, 1) := by decide +kernel
theorem dX6_go_140 : decode cX6_go 140 = .ok (.iconst 1, 1) := by decide +kernel
theorem dX6_go_141 : decode cX6_go 141 = .ok (.iadd, 1) := by decide +kernel
theorem dX6_go_142 : decode cX6_go 142 = .ok (.iastore, 1) := by decide +kernel
theorem dX6_go_143 : decode cX6_go 143 = .ok (.iload_n 3, 1) := by decide +kernel
theorem dX6_go_144 : decode cX6_go 144 = .ok (.aload_n 0, 1) := by decide +kernel
theorem dX6_go_145 : decode cX6_go 145 = .ok (.getfield 136, 3) := by decide +kernel
theorem dX6_go_148 : decode cX6_go 148 = .ok (.if_icmp .ne 16, 3) := by decide +kernel
theorem dX6_go_151 : decode cX6_go 151 = .ok (.aload_n 0, 1) := by decide +kernel
theorem dX6_go_152 : decode cX6_go 152 = .ok (.getfield 38, 3) := by decide +kernel
theorem dX6_go_155 : decode cX6_go 155 = .ok (.iload_n 1, 1) := by decide +kernel
theorem dX6_go_156 : decode cX6_go 156 = .ok (.aload_n 0, 1) := by decide +kernel
theorem dX6_go_157 : decode cX6_go 157 = .ok (.getfield 113, 3) := by decide +kernel
theorem dX6_go_160 : decode cX6_go 160 = .ok (.iastore, 1) := by decide +kernel
theorem dX6_go_161 : decode cX6_go 161 = .ok (.goto 8, 3) := by decide +kernel
theorem dX6_go_164 : decode cX6_go 164 = .ok (.aload_n 0, 1) := by decide +kernel
theorem dX6_go_165 : decode cX6_go 165 = .ok (.iload_n 1, 1) := by decide +kernel
theorem dX6_go_166 : decode cX6_go 166 = .ok (.invokevirtual 142, 3) := by decide +kernel
theorem dX6_go_169 : decode cX6_go 169 = .ok (.goto (-121), 3) := by decide +kernel
theorem dX6_go_172 : decode cX6_go 172 = .ok (.return_, 1) := by decide +kernel
theorem dX6_atHome_0 : decode cX6_atHome 0 = .ok (.iconst 0, 1) := by decide +kernel
theorem dX6_atHome_1 : decode cX6_atHome 1 = .ok (.istore_n 1, 1) := by decide +kernel
theorem dX6_atHome_2 : decode cX6_atHome 2 = .ok (.iconst 0, 1) := by decide +kernel
theorem dX6_atHome_3 : decode cX6_atHome 3 = .ok (.istore_n 2, 1) := by decide +kernel
theorem dX6_atHome_4 : decode cX6_atHome 4 = .ok (.iload_n 2, 1) := by decide +kernel
theorem dX6_atHome_5 : decode cX6_atHome 5 = .ok (.aload_n 0, 1) := by decide +kernel
theorem dX6_atHome_6 : decode cX6_atHome 6 = .ok (.getfield 110, 3) := by decide +kernel
theorem dX6_atHome_9 : decode cX6_atHome 9 = .ok (.if_icmp .ge 28, 3) := by decide +kernel
theorem dX6_atHome_12 : decode cX6_atHome 12 = .ok (.iload_n 1, 1) := by decide +kernel
theorem dX6_atHome_13 : decode cX6_atHome 13 = .ok (.aload_n 0, 1) := by decide +kernel
theorem dX6_atHome_14 : decode cX6_atHome 14 = .ok (.getfield 38, 3) := by decide +kernel
theorem dX6_atHome_17 : decode cX6_atHome 17 = .ok (.iload_n 2, 1) := by decide +kernel
theorem dX6_atHome_18 : decode cX6_atHome 18 = .ok (.iaload, 1) := by decide +kernel
theorem dX6_atHome_19 : decode cX6_atHome 19 = .ok (.bipush (-9), 2) := by decide +kernel
theorem dX6_atHome_21 : decode cX6_atHome 21 = .ok (.if_icmp .eq 7, 3) := by decide +kernel
theorem dX6_atHome_24 : decode cX6_atHome 24 = .ok (.iconst 1, 1) := by decide +kernel
theorem dX6_atHome_25 : decode cX6_atHome 25 = .ok (.goto 4, 3) := by decide +kernel
theorem dX6_atHome_28 : decode cX6_atHome 28 = .ok (.iconst 0, 1) := by decide +kernel
theorem dX6_atHome_29 : decode cX6_atHome 29 = .ok (.iadd, 1) := by decide +kernel
theorem dX6_atHome_30 : decode cX6_atHome 30 = .ok (.istore_n 1, 1) := by decide +kernel
theorem dX6_atHome_31 : decode cX6_atHome 31 = .ok (.iinc 2 1, 3) := by decide +kernel
theorem dX6_atHome_34 : decode cX6_atHome 34 = .ok (.goto (-30), 3) := by decide +kernel
theorem dX6_atHome_37 : decode cX6_atHome 37 = .ok (.iload_n 1, 1) := by decide +kernel
theorem dX6_atHome_38 : decode cX6_atHome 38 = .ok (.ireturn, 1) := by decide +kernel
set_option maxRecDepth 20000 in
theorem ggX6_run_X6_in : GoodIn wsX6_run wsX6_in := goodIn_r _ [8] (by decide +kernel) (by decide +kernel)
set_option maxRecDepth 20000 in
theorem gX6_run_X6_in : GoodIn wsX6_run (va_wsS RX6 87 yX6_in wsX6_in) := goodIn_app (goodIn_of _ (by decide +kernel)) ggX6_run_X6_in
set_option maxRecDepth 20000 in
theorem ggX6_run_X6_atHome : GoodIn wsX6_run wsX6_atHome := goodIn_r _ [12, 3, 4, 48, 49, 50, 51, 52, 53, 54, 55, 56, 57, 58, 59, 60, 61, 62, 63, 64, 65, 66, 67, 68, 69, 70, 71, 72, 73, 74, 75, 76, 77, 78] (by decide +kernel) (by decide +kernel)
set_option maxRecDepth 20000 in
theorem gX6_run_X6_atHome : GoodIn wsX6_run (wsV RX6 153 RX6 yX6_atHome wsX6_atHome) := goodIn_app (goodIn_of _ (by decide +kernel)) ggX6_run_X6_atHome
set_option maxRecDepth 20000 in
theorem ggX6_run_X6_go : GoodIn wsX6_run wsX6_go := goodIn_r _ [16, 17, 1, 18, 19, 4, 20, 21, 22, 23, 24, 7, 25, 26, 27, 28, 29, 30, 31, 32, 33, 5, 6, 8, 34, 35, 36, 37, 38, 39, 40, 41, 42, 43, 44, 45, 46, 47, 48, 49, 50, 51, 52, 53, 54, 55, 56, 57, 58, 59, 60, 61, 62, 63, 64, 65, 66, 67, 68, 69, 70, 71, 72, 73, 74, 75, 76, 77, 78] (by decide +kernel) (by decide +kernel)
set_option maxRecDepth 20000 in
theorem gX6_run_X6_go : GoodIn wsX6_run (wsV RX6 157 RX6 yX6_go wsX6_go) := goodIn_app (goodIn_of _ (by decide +kernel)) ggX6_run_X6_go
theorem dX6_run_0 : decode cX6_run 0 = .ok (.iload_n 1, 1) := by decide +kernel
theorem dX6_run_1 : decode cX6_run 1 = .ok (.iconst 0, 1) := by decide +kernel
theorem dX6_run_2 : decode cX6_run 2 = .ok (.sipush 2000, 3) := by decide +kernel
theorem dX6_run_5 : decode cX6_run 5 = .ok (.invokestatic 87, 3) := by decide +kernel
theorem dX6_run_8 : decode cX6_run 8 = .ok (.ifCond .ne 5, 3) := by decide +kernel
theorem dX6_run_11 : decode cX6_run 11 = .ok (.iconst (-1), 1) := by decide +kernel
theorem dX6_run_12 : decode cX6_run 12 = .ok (.ireturn, 1) := by decide +kernel
theorem dX6_run_13 : decode cX6_run 13 = .ok (.aload_n 0, 1) := by decide +kernel
theorem dX6_run_14 : decode cX6_run 14 = .ok (.getfield 113, 3) := by decide +kernel
theorem dX6_run_17 : decode cX6_run 17 = .ok (.iload_n 1, 1) := by decide +kernel
theorem dX6_run_18 : decode cX6_run 18 = .ok (.iadd, 1) := by decide +kernel
theorem dX6_run_19 : decode cX6_run 19 = .ok (.ldc 152, 2) := by decide +kernel
theorem dX6_run_21 : decode cX6_run 21 = .ok (.if_icmp .le 6, 3) := by decide +kernel
theorem dX6_run_24 : decode cX6_run 24 = .ok (.bipush (-2), 2) := by decide +kernel
theorem dX6_run_26 : decode cX6_run 26 = .ok (.ireturn, 1) := by decide +kernel
theorem dX6_run_27 : decode cX6_run 27 = .ok (.aload_n 0, 1) := by decide +kernel
theorem dX6_run_28 : decode cX6_run 28 = .ok (.invokevirtual 153, 3) := by decide +kernel
theorem dX6_run_31 : decode cX6_run 31 = .ok (.istore_n 2, 1) := by decide +kernel
theorem dX6_run_32 : decode cX6_run 32 = .ok (.iconst 0, 1) := by decide +kernel
theorem dX6_run_33 : decode cX6_run 33 = .ok (.istore_n 3, 1) := by decide +kernel
theorem dX6_run_34 : decode cX6_run 34 = .ok (.iload_n 3, 1) := by decide +kernel
theorem dX6_run_35 : decode cX6_run 35 = .ok (.iload_n 1, 1) := by decide +kernel
theorem dX6_run_36 : decode cX6_run 36 = .ok (.if_icmp .ge 55, 3) := by decide +kernel
theorem dX6_run_39 : decode cX6_run 39 = .ok (.iconst 0, 1) := by decide +kernel
theorem dX6_run_40 : decode cX6_run 40 = .ok (.istore 4, 2) := by decide +kernel
theorem dX6_run_42 : decode cX6_run 42 = .ok (.iload 4, 2) := by decide +kernel
theorem dX6_run_44 : decode cX6_run 44 = .ok (.aload_n 0, 1) := by decide +kernel
theorem dX6_run_45 : decode cX6_run 45 = .ok (.getfield 110, 3) := by decide +kernel
theorem dX6_run_48 : decode cX6_run 48 = .ok (.if_icmp .ge 27, 3) := by decide +kernel
theorem dX6_run_51 : decode cX6_run 51 = .ok (.aload_n 0, 1) := by decide +kernel
theorem dX6_run_52 : decode cX6_run 52 = .ok (.getfield 38, 3) := by decide +kernel
theorem dX6_run_55 : decode cX6_run 55 = .ok (.iload 4, 2) := by decide +kernel
theorem dX6_run_57 : decode cX6_run 57 = .ok (.iaload, 1) := by decide +kernel
theorem dX6_run_58 : decode cX6_run 58 = .ok (.bipush (-9), 2) := by decide +kernel
theorem dX6_run_60 : decode cX6_run 60 = .ok (.if_icmp .ne 9, 3) := by decide +kernel
theorem dX6_run_63 : decode cX6_run 63 = .ok (.aload_n 0, 1) := by decide +kernel
theorem dX6_run_64 : decode cX6_run 64 = .ok (.iload 4, 2) := by decide +kernel
theorem dX6_run_66 : decode cX6_run 66 = .ok (.invokevirtual 157, 3) := by decide +kernel
theorem dX6_run_69 : decode cX6_run 69 = .ok (.iinc 4 1, 3) := by decide +kernel
theorem dX6_run_72 : decode cX6_run 72 = .ok (.goto (-30), 3) := by decide +kernel
theorem dX6_run_75 : decode cX6_run 75 = .ok (.aload_n 0, 1) := by decide +kernel
theorem dX6_run_76 : decode cX6_run 76 = .ok (.dup, 1) := by decide +kernel
theorem dX6_run_77 : decode cX6_run 77 = .ok (.getfield 113, 3) := by decide +kernel
theorem dX6_run_80 : decode cX6_run 80 = .ok (.iconst 1, 1) := by decide +kernel
theorem dX6_run_81 : decode cX6_run 81 = .ok (.iadd, 1) := by decide +kernel
theorem dX6_run_82 : decode cX6_run 82 = .ok (.putfield 113, 3) := by decide +kernel
theorem dX6_run_85 : decode cX6_run 85 = .ok (.iinc 3 1, 3) := by decide +kernel
theorem dX6_run_88 : decode cX6_run 88 = .ok (.goto (-54), 3) := by decide +kernel
theorem dX6_run_91 : decode cX6_run 91 = .ok (.aload_n 0, 1) := by decide +kernel
theorem dX6_run_92 : decode cX6_run 92 = .ok (.invokevirtual 153, 3) := by decide +kernel
theorem dX6_run_95 : decode cX6_run 95 = .ok (.iload_n 2, 1) := by decide +kernel
theorem dX6_run_96 : decode cX6_run 96 = .ok (.isub, 1) := by decide +kernel
theorem dX6_run_97 : decode cX6_run 97 = .ok (.ireturn, 1) := by decide +kernel
set_option maxRecDepth 20000 in
theorem ggX6_firstShip_X6_entryOf : GoodIn wsX6_firstShip wsX6_entryOf := goodIn_r _ [7, 2, 8, 9, 10, 11, 12, 13, 14, 15, 16, 17, 18, 19, 20, 21, 22, 23, 24, 25, 26, 27, 28, 29, 30, 31, 32, 33, 34, 35, 36, 37, 38, 39] (by decide +kernel) (by decide +kernel)
set_option maxRecDepth 20000 in
theorem gX6_firstShip_X6_entryOf : GoodIn wsX6_firstShip (wsV RX6 122 RX6 yX6_entryOf wsX6_entryOf) := goodIn_app (goodIn_of _ (by decide +kernel)) ggX6_firstShip_X6_entryOf
theorem dX6_firstShip_0 : decode cX6_firstShip 0 = .ok (.bipush (-9), 2) := by decide +kernel
theorem dX6_firstShip_2 : decode cX6_firstShip 2 = .ok (.istore_n 1, 1) := by decide +kernel
theorem dX6_firstShip_3 : decode cX6_firstShip 3 = .ok (.iconst 0, 1) := by decide +kernel
theorem dX6_firstShip_4 : decode cX6_firstShip 4 = .ok (.istore_n 2, 1) := by decide +kernel
theorem dX6_firstShip_5 : decode cX6_firstShip 5 = .ok (.iload_n 2, 1) := by decide +kernel
theorem dX6_firstShip_6 : decode cX6_firstShip 6 = .ok (.aload_n 0, 1) := by decide +kernel
theorem dX6_firstShip_7 : decode cX6_firstShip 7 = .ok (.getfield 110, 3) := by decide +kernel
theorem dX6_firstShip_10 : decode cX6_firstShip 10 = .ok (.if_icmp .ge 69, 3) := by decide +kernel
theorem dX6_firstShip_13 : decode cX6_firstShip 13 = .ok (.aload_n 0, 1) := by decide +kernel
theorem dX6_firstShip_14 : decode cX6_firstShip 14 = .ok (.getfield 38, 3) := by decide +kernel
theorem dX6_firstShip_17 : decode cX6_firstShip 17 = .ok (.iload_n 2, 1) := by decide +kernel
theorem dX6_firstShip_18 : decode cX6_firstShip 18 = .ok (.iaload, 1) := by decide +kernel
theorem dX6_firstShip_19 : decode cX6_firstShip 19 = .ok (.bipush (-9), 2) := by decide +kernel
theorem dX6_firstShip_21 : decode cX6_firstShip 21 = .ok (.if_icmp .eq 52, 3) := by decide +kernel
theorem dX6_firstShip_24 : decode cX6_firstShip 24 = .ok (.iload_n 1, 1) := by decide +kernel
theorem dX6_firstShip_25 : decode cX6_firstShip 25 = .ok (.ifCond .ge 7, 3) := by decide +kernel
theorem dX6_firstShip_28 : decode cX6_firstShip 28 = .ok (.iconst (-1), 1) := by decide +kernel
theorem dX6_firstShip_29 : decode cX6_firstShip 29 = .ok (.goto 14, 3) := by decide +kernel
theorem dX6_firstShip_32 : decode cX6_firstShip 32 = .ok (.aload_n 0, 1) := by decide +kernel
theorem dX6_firstShip_33 : decode cX6_firstShip 33 = .ok (.iload_n 2, 1) := by decide +kernel
theorem dX6_firstShip_34 : decode cX6_firstShip 34 = .ok (.invokevirtual 122, 3) := by decide +kernel
theorem dX6_firstShip_37 : decode cX6_firstShip 37 = .ok (.aload_n 0, 1) := by decide +kernel
theorem dX6_firstShip_38 : decode cX6_firstShip 38 = .ok (.iload_n 1, 1) := by decide +kernel
theorem dX6_firstShip_39 : decode cX6_firstShip 39 = .ok (.invokevirtual 122, 3) := by decide +kernel
theorem dX6_firstShip_42 : decode cX6_firstShip 42 = .ok (.isub, 1) := by decide +kernel
theorem dX6_firstShip_43 : decode cX6_firstShip 43 = .ok (.istore_n 3, 1) := by decide +kernel
theorem dX6_firstShip_44 : decode cX6_firstShip 44 = .ok (.iload_n 3, 1) := by decide +kernel
theorem dX6_firstShip_45 : decode cX6_firstShip 45 = .ok (.ifCond .lt 22, 3) := by decide +kernel
theorem dX6_firstShip_48 : decode cX6_firstShip 48 = .ok (.iload_n 3, 1) := by decide +kernel
theorem dX6_firstShip_49 : decode cX6_firstShip 49 = .ok (.ifCond .ne 22, 3) := by decide +kernel
theorem dX6_firstShip_52 : decode cX6_firstShip 52 = .ok (.aload_n 0, 1) := by decide +kernel
theorem dX6_firstShip_53 : decode cX6_firstShip 53 = .ok (.getfield 38, 3) := by decide +kernel
theorem dX6_firstShip_56 : decode cX6_firstShip 56 = .ok (.iload_n 2, 1) := by decide +kernel
theorem dX6_firstShip_57 : decode cX6_firstShip 57 = .ok (.iaload, 1) := by decide +kernel
theorem dX6_firstShip_58 : decode cX6_firstShip 58 = .ok (.aload_n 0, 1) := by decide +kernel
theorem dX6_firstShip_59 : decode cX6_firstShip 59 = .ok (.getfield 38, 3) := by decide +kernel
theorem dX6_firstShip_62 : decode cX6_firstShip 62 = .ok (.iload_n 1, 1) := by decide +kernel
theorem dX6_firstShip_63 : decode cX6_firstShip 63 = .ok (.iaload, 1) := by decide +kernel
theorem dX6_firstShip_64 : decode cX6_firstShip 64 = .ok (.if_icmp .ge 7, 3) := by decide +kernel
theorem dX6_firstShip_67 : decode cX6_firstShip 67 = .ok (.iload_n 2, 1) := by decide +kernel
theorem dX6_firstShip_68 : decode cX6_firstShip 68 = .ok (.goto 4, 3) := by decide +kernel
theorem dX6_firstShip_71 : decode cX6_firstShip 71 = .ok (.iload_n 1, 1) := by decide +kernel
theorem dX6_firstShip_72 : decode cX6_firstShip 72 = .ok (.istore_n 1, 1) := by decide +kernel
theorem dX6_firstShip_73 : decode cX6_firstShip 73 = .ok (.iinc 2 1, 3) := by decide +kernel
theorem dX6_firstShip_76 : decode cX6_firstShip 76 = .ok (.goto (-71), 3) := by decide +kernel
theorem dX6_firstShip_79 : decode cX6_firstShip 79 = .ok (.iload_n 1, 1) := by decide +kernel
theorem dX6_firstShip_80 : decode cX6_firstShip 80 = .ok (.ireturn, 1) := by decide +kernel
set_option maxRecDepth 20000 in
theorem ggX6_first_X6_firstShip : GoodIn wsX6_first wsX6_firstShip := goodIn_r _ [5, 6, 7, 8, 9, 10, 4, 11, 12, 13, 14, 15, 16, 17, 18, 19, 20, 21, 22, 23, 24, 25, 26, 27, 28, 29, 30, 31, 32, 33, 34, 35, 36, 37, 38, 39, 40, 41, 42, 43] (by decide +kernel) (by decide +kernel)
set_option maxRecDepth 20000 in
theorem gX6_first_X6_firstShip : GoodIn wsX6_first (wsV RX6 160 RX6 yX6_firstShip wsX6_firstShip) := goodIn_app (goodIn_of _ (by decide +kernel)) ggX6_first_X6_firstShip
theorem dX6_first_0 : decode cX6_first 0 = .ok (.aload_n 0, 1) := by decide +kernel
theorem dX6_first_1 : decode cX6_first 1 = .ok (.invokevirtual 160, 3) := by decide +kernel
theorem dX6_first_4 : decode cX6_first 4 = .ok (.ireturn, 1) := by decide +kernel
set_option maxRecDepth 20000 in
theorem ggX6_crossing_X6_need : GoodIn wsX6_crossing wsX6_need := goodIn_r _ [4] (by decide +kernel) (by decide +kernel)
set_option maxRecDepth 20000 in
theorem gX6_crossing_X6_need : GoodIn wsX6_crossing (va_wsS RX6 146 yX6_need wsX6_need) := goodIn_app (goodIn_of _ (by decide +kernel)) ggX6_crossing_X6_need
set_option maxRecDepth 20000 in
theorem ggX6_crossing_X6_windAt : GoodIn wsX6_crossing wsX6_windAt := goodIn_r _ [8, 9, 10, 11, 12, 3, 13, 20, 21, 22, 23, 24, 25, 26, 27, 28, 29, 30, 31, 32, 33, 34, 35, 36, 37, 38, 39, 40, 41, 42, 43, 44, 45, 46, 47, 48, 49, 50] (by decide +kernel) (by decide +kernel)
set_option maxRecDepth 20000 in
theorem gX6_crossing_X6_windAt : GoodIn wsX6_crossing (wsV RX6 139 RX6 yX6_windAt wsX6_windAt) := goodIn_app (goodIn_of _ (by decide +kernel)) ggX6_crossing_X6_windAt
set_option maxRecDepth 20000 in
theorem ggX6_crossing_X6_speedOf : GoodIn wsX6_crossing wsX6_speedOf := goodIn_r _ [17, 18, 19, 20, 21, 22, 23, 24, 25, 26, 27, 28, 29, 30, 31, 32, 33, 34, 35, 36, 37, 38, 39, 40, 41, 42, 43, 44, 45, 46, 47, 48, 49, 50] (by decide +kernel) (by decide +kernel)
set_option maxRecDepth 20000 in
theorem gX6_crossing_X6_speedOf : GoodIn wsX6_crossing (wsV RX6 129 RX6 yX6_speedOf wsX6_speedOf) := goodIn_app (goodIn_of _ (by decide +kernel)) ggX6_crossing_X6_speedOf
theorem dX6_crossing_0 : decode cX6_crossing 0 = .ok (.iconst 0, 1) := by decide +kernel
theorem dX6_crossing_1 : decode cX6_crossing 1 = .ok (.istore 6, 2) := by decide +kernel
theorem dX6_crossing_3 : decode cX6_crossing 3 = .ok (.iconst 0, 1) := by decide +kernel
theorem dX6_crossing_4 : decode cX6_crossing 4 = .ok (.istore 7, 2) := by decide +kernel
theorem dX6_crossing_6 : decode cX6_crossing 6 = .ok (.iload 6, 2) := by decide +kernel
theorem dX6_crossing_8 : decode cX6_crossing 8 = .ok (.iload_n 3, 1) := by decide +kernel
theorem dX6_crossing_9 : decode cX6_crossing 9 = .ok (.invokestatic 146, 3) := by decide +kernel
theorem dX6_crossing_12 : decode cX6_crossing 12 = .ok (.if_icmp .ge 49, 3) := by decide +kernel
theorem dX6_crossing_15 : decode cX6_crossing 15 = .ok (.iload 7, 2) := by decide +kernel
theorem dX6_crossing_17 : decode cX6_crossing 17 = .ok (.iload 5, 2) := by decide +kernel
theorem dX6_crossing_19 : decode cX6_crossing 19 = .ok (.if_icmp .gt 42, 3) := by decide +kernel
theorem dX6_crossing_22 : decode cX6_crossing 22 = .ok (.aload_n 0, 1) := by decide +kernel
theorem dX6_crossing_23 : decode cX6_crossing 23 = .ok (.iload_n 2, 1) := by decide +kernel
theorem dX6_crossing_24 : decode cX6_crossing 24 = .ok (.iload 4, 2) := by decide +kernel
theorem dX6_crossing_26 : decode cX6_crossing 26 = .ok (.iload 7, 2) := by decide +kernel
theorem dX6_crossing_28 : decode cX6_crossing 28 = .ok (.iadd, 1) := by decide +kernel
theorem dX6_crossing_29 : decode cX6_crossing 29 = .ok (.invokevirtual 139, 3) := by decide +kernel
theorem dX6_crossing_32 : decode cX6_crossing 32 = .ok (.istore 8, 2) := by decide +kernel
theorem dX6_crossing_34 : decode cX6_crossing 34 = .ok (.iload 6, 2) := by decide +kernel
theorem dX6_crossing_36 : decode cX6_crossing 36 = .ok (.aload_n 0, 1) := by decide +kernel
theorem dX6_crossing_37 : decode cX6_crossing 37 = .ok (.iload_n 1, 1) := by decide +kernel
theorem dX6_crossing_38 : decode cX6_crossing 38 = .ok (.iload_n 3, 1) := by decide +kernel
theorem dX6_crossing_39 : decode cX6_crossing 39 = .ok (.iload 8, 2) := by decide +kernel
theorem dX6_crossing_41 : decode cX6_crossing 41 = .ok (.bipush 10, 2) := by decide +kernel
theorem dX6_crossing_43 : decode cX6_crossing 43 = .ok (.idiv, 1) := by decide +kernel
theorem dX6_crossing_44 : decode cX6_crossing 44 = .ok (.iload 8, 2) := by decide +kernel
theorem dX6_crossing_46 : decode cX6_crossing 46 = .ok (.bipush 10, 2) := by decide +kernel
theorem dX6_crossing_48 : decode cX6_crossing 48 = .ok (.irem, 1) := by decide +kernel
theorem dX6_crossing_49 : decode cX6_crossing 49 = .ok (.invokevirtual 129, 3) := by decide +kernel
theorem dX6_crossing_52 : decode cX6_crossing 52 = .ok (.iadd, 1) := by decide +kernel
theorem dX6_crossing_53 : decode cX6_crossing 53 = .ok (.istore 6, 2) := by decide +kernel
theorem dX6_crossing_55 : decode cX6_crossing 55 = .ok (.iinc 7 1, 3) := by decide +kernel
theorem dX6_crossing_58 : decode cX6_crossing 58 = .ok (.goto (-52), 3) := by decide +kernel
theorem dX6_crossing_61 : decode cX6_crossing 61 = .ok (.iload 7, 2) := by decide +kernel
theorem dX6_crossing_63 : decode cX6_crossing 63 = .ok (.ireturn, 1) := by decide +kernel
set_option maxRecDepth 20000 in
theorem ggX6_least_X6_isShip : GoodIn wsX6_least wsX6_isShip := goodIn_r _ [9, 10, 11, 12, 8, 13, 40, 41, 42, 43, 44, 45, 46, 47, 48, 49, 50, 51, 52, 53, 54, 55, 56, 57, 58, 59, 60, 61, 62, 63, 64, 65, 66, 67, 68, 69, 70] (by decide +kernel) (by decide +kernel)
set_option maxRecDepth 20000 in
theorem gX6_least_X6_isShip : GoodIn wsX6_least (wsV RX6 116 RX6 yX6_isShip wsX6_isShip) := goodIn_app (goodIn_of _ (by decide +kernel)) ggX6_least_X6_isShip
set_option maxRecDepth 20000 in
theorem ggX6_least_X6_isCell : GoodIn wsX6_least wsX6_isCell := goodIn_r _ [16, 11, 12, 8, 13] (by decide +kernel) (by decide +kernel)
set_option maxRecDepth 20000 in
theorem gX6_least_X6_isCell : GoodIn wsX6_least (va_wsS RX6 91 yX6_isCell wsX6_isCell) := goodIn_app (goodIn_of _ (by decide +kernel)) ggX6_least_X6_isCell
set_option maxRecDepth 20000 in
theorem ggX6_least_X6_in : GoodIn wsX6_least wsX6_in := goodIn_r _ [13] (by decide +kernel) (by decide +kernel)
set_option maxRecDepth 20000 in
theorem gX6_least_X6_in : GoodIn wsX6_least (va_wsS RX6 87 yX6_in wsX6_in) := goodIn_app (goodIn_of _ (by decide +kernel)) ggX6_least_X6_in
set_option maxRecDepth 20000 in
theorem ggX6_least_X6_nextCell : GoodIn wsX6_least wsX6_nextCell := goodIn_r _ [20, 1, 11, 12, 8, 13, 40, 41, 42, 43, 44, 45, 46, 47, 48, 49, 50, 51, 52, 53, 54, 55, 56, 57, 58, 59, 60, 61, 62, 63, 64, 65, 66, 67, 68, 69, 70] (by decide +kernel) (by decide +kernel)
set_option maxRecDepth 20000 in
theorem gX6_least_X6_nextCell : GoodIn wsX6_least (wsV RX6 149 RX6 yX6_nextCell wsX6_nextCell) := goodIn_app (goodIn_of _ (by decide +kernel)) ggX6_least_X6_nextCell
set_option maxRecDepth 20000 in
theorem ggX6_least_X6_crossing : GoodIn wsX6_least wsX6_crossing := goodIn_r _ [24, 25, 26, 8, 27, 28, 29, 30, 31, 32, 33, 11, 12, 13, 34, 35, 36, 37, 38, 39, 40, 41, 42, 43, 44, 45, 46, 47, 48, 49, 50, 51, 52, 53, 54, 55, 56, 57, 58, 59, 60, 61, 62, 63, 64, 65, 66, 67, 68, 69, 70] (by decide +kernel) (by decide +kernel)
set_option maxRecDepth 20000 in
theorem gX6_least_X6_crossing : GoodIn wsX6_least (wsV RX6 164 RX6 yX6_crossing wsX6_crossing) := goodIn_app (goodIn_of _ (by decide +kernel)) ggX6_least_X6_crossing
theorem dX6_least_0 : decode cX6_least 0 = .ok (.aload_n 0, 1) := by decide +kernel
theorem dX6_least_1 : decode cX6_least 1 = .ok (.iload_n 1, 1) := by decide +kernel
theorem dX6_least_2 : decode cX6_least 2 = .ok (.invokevirtual 116, 3) := by decide +kernel
theorem dX6_least_5 : decode cX6_least 5 = .ok (.ifCond .eq 46, 3) := by decide +kernel
theorem dX6_least_8 : decode cX6_least 8 = .ok (.iload_n 2, 1) := by decide +kernel
theorem dX6_least_9 : decode cX6_least 9 = .ok (.invokestatic 91, 3) := by decide +kernel
theorem dX6_least_12 : decode cX6_least 12 = .ok (.ifCond .eq 39, 3) := by decide +kernel
theorem dX6_least_15 : decode cX6_least 15 = .ok (.iload_n 3, 1) := by decide +kernel
theorem dX6_least_16 : decode cX6_least 16 = .ok (.invokestatic 91, 3) := by decide +kernel
theorem dX6_least_19 : decode cX6_least 19 = .ok (.ifCond .eq 32, 3) := by decide +kernel
theorem dX6_least_22 : decode cX6_least 22 = .ok (.aload_n 0, 1) := by decide +kernel
theorem dX6_least_23 : decode cX6_least 23 = .ok (.getfield 13, 3) := by decide +kernel
theorem dX6_least_26 : decode cX6_least 26 = .ok (.iload_n 2, 1) := by decide +kernel
theorem dX6_least_27 : decode cX6_least 27 = .ok (.baload, 1) := by decide +kernel
theorem dX6_least_28 : decode cX6_least 28 = .ok (.ifCond .ne 23, 3) := by decide +kernel
theorem dX6_least_31 : decode cX6_least 31 = .ok (.aload_n 0, 1) := by decide +kernel
theorem dX6_least_32 : decode cX6_least 32 = .ok (.getfield 13, 3) := by decide +kernel
theorem dX6_least_35 : decode cX6_least 35 = .ok (.iload_n 3, 1) := by decide +kernel
theorem dX6_least_36 : decode cX6_least 36 = .ok (.baload, 1) := by decide +kernel
theorem dX6_least_37 : decode cX6_least 37 = .ok (.ifCond .ne 14, 3) := by decide +kernel
theorem dX6_least_40 : decode cX6_least 40 = .ok (.iload 4, 2) := by decide +kernel
theorem dX6_least_42 : decode cX6_least 42 = .ok (.iconst 0, 1) := by decide +kernel
theorem dX6_least_43 : decode cX6_least 43 = .ok (.ldc 163, 2) := by decide +kernel
theorem dX6_least_45 : decode cX6_least 45 = .ok (.invokestatic 87, 3) := by decide +kernel
theorem dX6_least_48 : decode cX6_least 48 = .ok (.ifCond .ne 5, 3) := by decide +kernel
theorem dX6_least_51 : decode cX6_least 51 = .ok (.iconst (-1), 1) := by decide +kernel
theorem dX6_least_52 : decode cX6_least 52 = .ok (.ireturn, 1) := by decide +kernel
theorem dX6_least_53 : decode cX6_least 53 = .ok (.iconst 0, 1) := by decide +kernel
theorem dX6_least_54 : decode cX6_least 54 = .ok (.istore 5, 2) := by decide +kernel
theorem dX6_least_56 : decode cX6_least 56 = .ok (.iload 5, 2) := by decide +kernel
theorem dX6_least_58 : decode cX6_least 58 = .ok (.sipush 160, 3) := by decide +kernel
theorem dX6_least_61 : decode cX6_least 61 = .ok (.if_icmp .ge 27, 3) := by decide +kernel
theorem dX6_least_64 : decode cX6_least 64 = .ok (.aload_n 0, 1) := by decide +kernel
theorem dX6_least_65 : decode cX6_least 65 = .ok (.getfield 62, 3) := by decide +kernel
theorem dX6_least_68 : decode cX6_least 68 = .ok (.iload 5, 2) := by decide +kernel
theorem dX6_least_70 : decode cX6_least 70 = .ok (.sipush 2001, 3) := by decide +kernel
theorem dX6_least_73 : decode cX6_least 73 = .ok (.iastore, 1) := by decide +kernel
theorem dX6_least_74 : decode cX6_least 74 = .ok (.aload_n 0, 1) := by decide +kernel
theorem dX6_least_75 : decode cX6_least 75 = .ok (.getfield 65, 3) := by decide +kernel
theorem dX6_least_78 : decode cX6_least 78 = .ok (.iload 5, 2) := by decide +kernel
theorem dX6_least_80 : decode cX6_least 80 = .ok (.iconst 0, 1) := by decide +kernel
theorem dX6_least_81 : decode cX6_least 81 = .ok (.bastore, 1) := by decide +kernel
theorem dX6_least_82 : decode cX6_least 82 = .ok (.iinc 5 1, 3) := by decide +kernel
theorem dX6_least_85 : decode cX6_least 85 = .ok (.goto (-29), 3) := by decide +kernel
theorem dX6_least_88 : decode cX6_least 88 = .ok (.aload_n 0, 1) := by decide +kernel
theorem dX6_least_89 : decode cX6_least 89 = .ok (.getfield 62, 3) := by decide +kernel
theorem dX6_least_92 : decode cX6_least 92 = .ok (.iload_n 2, 1) := by decide +kernel
theorem dX6_least_93 : decode cX6_least 93 = .ok (.iconst 0, 1) := by decide +kernel
theorem dX6_least_94 : decode cX6_least 94 = .ok (.iastore, 1) := by decide +kernel
theorem dX6_least_95 : decode cX6_least 95 = .ok (.iload_n 2, 1) := by decide +kernel
theorem dX6_least_96 : decode cX6_least 96 = .ok (.istore 5, 2) := by decide +kernel
theorem dX6_least_98 : decode cX6_least 98 = .ok (.iload 5, 2) := by decide +kernel
theorem dX6_least_100 : decode cX6_least 100 = .ok (.iload_n 3, 1) := by decide +kernel
theorem dX6_least_101 : decode cX6_least 101 = .ok (.if_icmp .eq 208, 3) := by decide +kernel
theorem dX6_least_104 : decode cX6_least 104 = .ok (.iload 5, 2) := by decide +kernel
theorem dX6_least_106 : decode cX6_least 106 = .ok (.ifCond .lt 203, 3) := by decide +kernel
theorem dX6_least_109 : decode cX6_least 109 = .ok (.aload_n 0, 1) := by decide +kernel
theorem dX6_least_110 : decode cX6_least 110 = .ok (.getfield 65, 3) := by decide +kernel
theorem dX6_least_113 : decode cX6_least 113 = .ok (.iload 5, 2) := by decide +kernel
theorem dX6_least_115 : decode cX6_least 115 = .ok (.iconst 1, 1) := by decide +kernel
theorem dX6_least_116 : decode cX6_least 116 = .ok (.bastore, 1) := by decide +kernel
theorem dX6_least_117 : decode cX6_least 117 = .ok (.iconst 0, 1) := by decide +kernel
theorem dX6_least_118 : decode cX6_least 118 = .ok (.istore 6, 2) := by decide +kernel
theorem dX6_least_120 : decode cX6_least 120 = .ok (.iload 6, 2) := by decide +kernel
theorem dX6_least_122 : decode cX6_least 122 = .ok (.bipush 8, 2) := by decide +kernel
theorem dX6_least_124 : decode cX6_least 124 = .ok (.if_icmp .ge 107, 3) := by decide +kernel
theorem dX6_least_127 : decode cX6_least 127 = .ok (.aload_n 0, 1) := by decide +kernel
theorem dX6_least_128 : decode cX6_least 128 = .ok (.iload 5, 2) := by decide +kernel
theorem dX6_least_130 : decode cX6_least 130 = .ok (.iload 6, 2) := by decide +kernel
theorem dX6_least_132 : decode cX6_least 132 = .ok (.invokevirtual 149, 3) := by decide +kernel
theorem dX6_least_135 : decode cX6_least 135 = .ok (.istore 7, 2) := by decide +kernel
theorem dX6_least_137 : decode cX6_least 137 = .ok (.iload 7, 2) := by decide +kernel
theorem dX6_least_139 : decode cX6_least 139 = .ok (.bipush (-9), 2) := by decide +kernel
theorem dX6_least_141 : decode cX6_least 141 = .ok (.if_icmp .eq 84, 3) := by decide +kernel
theorem dX6_least_144 : decode cX6_least 144 = .ok (.aload_n 0, 1) := by decide +kernel
theorem dX6_least_145 : decode cX6_least 145 = .ok (.getfield 65, 3) := by decide +kernel
theorem dX6_least_148 : decode cX6_least 148 = .ok (.iload 7, 2) := by decide +kernel
theorem dX6_least_150 : decode cX6_least 150 = .ok (.baload, 1) := by decide +kernel
theorem dX6_least_151 : decode cX6_least 151 = .ok (.ifCond .ne 74, 3) := by decide +kernel
theorem dX6_least_154 : decode cX6_least 154 = .ok (.aload_n 0, 1) := by decide +kernel
theorem dX6_least_155 : decode cX6_least 155 = .ok (.getfield 62, 3) := by decide +kernel
theorem dX6_least_158 : decode cX6_least 158 = .ok (.iload 5, 2) := by decide +kernel
theorem dX6_least_160 : decode cX6_least 160 = .ok (.iaload, 1) := by decide +kernel
theorem dX6_least_161 : decode cX6_least 161 = .ok (.aload_n 0, 1) := by decide +kernel
theorem dX6_least_162 : decode cX6_least 162 = .ok (.iload_n 1, 1) := by decide +kernel
theorem dX6_least_163 : decode cX6_least 163 = .ok (.iload 5, 2) := by decide +kernel
theorem dX6_least_165 : decode cX6_least 165 = .ok (.iload 6, 2) := by decide +kernel
theorem dX6_least_167 : decode cX6_least 167 = .ok (.iload 4, 2) := by decide +kernel
theorem dX6_least_169 : decode cX6_least 169 = .ok (.aload_n 0, 1) := by decide +kernel
theorem dX6_least_170 : decode cX6_least 170 = .ok (.getfield 62, 3) := by decide +kernel
theorem dX6_least_173 : decode cX6_least 173 = .ok (.iload 5, 2) := by decide +kernel
theorem dX6_least_175 : decode cX6_least 175 = .ok (.iaload, 1) := by decide +kernel
theorem dX6_least_176 : decode cX6_least 176 = .ok (.iadd, 1) := by decide +kernel
theorem dX6_least_177 : decode cX6_least 177 = .ok (.sipush 2000, 3) := by decide +kernel
theorem dX6_least_180 : decode cX6_least 180 = .ok (.aload_n 0, 1) := by decide +kernel
theorem dX6_least_181 : decode cX6_least 181 = .ok (.getfield 62, 3) := by decide +kernel
theorem dX6_least_184 : decode cX6_least 184 = .ok (.iload 5, 2) := by decide +kernel
theorem dX6_least_186 : decode cX6_least 186 = .ok (.iaload, 1) := by decide +kernel
theorem dX6_least_187 : decode cX6_least 187 = .ok (.isub, 1) := by decide +kernel
theorem dX6_least_188 : decode cX6_least 188 = .ok (.invokevirtual 164, 3) := by decide +kernel
theorem dX6_least_191 : decode cX6_least 191 = .ok (.iadd, 1) := by decide +kernel
theorem dX6_least_192 : decode cX6_least 192 = .ok (.istore 8, 2) := by decide +kernel
theorem dX6_least_194 : decode cX6_least 194 = .ok (.aload_n 0, 1) := by decide +kernel
theorem dX6_least_195 : decode cX6_least 195 = .ok (.getfield 62, 3) := by decide +kernel
theorem dX6_least_198 : decode cX6_least 198 = .ok (.iload 7, 2) := by decide +kernel
theorem dX6_least_200 : decode cX6_least 200 = .ok (.iload 8, 2) := by decide +kernel
theorem dX6_least_202 : decode cX6_least 202 = .ok (.aload_n 0, 1) := by decide +kernel
theorem dX6_least_203 : decode cX6_least 203 = .ok (.getfield 62, 3) := by decide +kernel
theorem dX6_least_206 : decode cX6_least 206 = .ok (.iload 7, 2) := by decide +kernel
theorem dX6_least_208 : decode cX6_least 208 = .ok (.iaload, 1) := by decide +kernel
theorem dX6_least_209 : decode cX6_least 209 = .ok (.if_icmp .ge 8, 3) := by decide +kernel
theorem dX6_least_212 : decode cX6_least 212 = .ok (.iload 8, 2) := by decide +kernel
theorem dX6_least_214 : decode cX6_least 214 = .ok (.goto 10, 3) := by decide +kernel
theorem dX6_least_217 : decode cX6_least 217 = .ok (.aload_n 0, 1) := by decide +kernel
theorem dX6_least_218 : decode cX6_least 218 = .ok (.getfield 62, 3) := by decide +kernel
theorem dX6_least_221 : decode cX6_least 221 = .ok (.iload 7, 2) := by decide +kernel
theorem dX6_least_223 : decode cX6_least 223 = .ok (.iaload, 1) := by decide +kernel
theorem dX6_least_224 : decode cX6_least 224 = .ok (.iastore, 1) := by decide +kernel
theorem dX6_least_225 : decode cX6_least 225 = .ok (.iinc 6 1, 3) := by decide +kernel
theorem dX6_least_228 : decode cX6_least 228 = .ok (.goto (-108), 3) := by decide +kernel
theorem dX6_least_231 : decode cX6_least 231 = .ok (.bipush (-9), 2) := by decide +kernel
theorem dX6_least_233 : decode cX6_least 233 = .ok (.istore 5, 2) := by decide +kernel
theorem dX6_least_235 : decode cX6_least 235 = .ok (.iconst 0, 1) := by decide +kernel
theorem dX6_least_236 : decode cX6_least 236 = .ok (.istore 6, 2) := by decide +kernel
theorem dX6_least_238 : decode cX6_least 238 = .ok (.iload 6, 2) := by decide +kernel
theorem dX6_least_240 : decode cX6_least 240 = .ok (.sipush 160, 3) := by decide +kernel
theorem dX6_least_243 : decode cX6_least 243 = .ok (.if_icmp .ge 63, 3) := by decide +kernel
theorem dX6_least_246 : decode cX6_least 246 = .ok (.aload_n 0, 1) := by decide +kernel
theorem dX6_least_247 : decode cX6_least 247 = .ok (.getfield 65, 3) := by decide +kernel
theorem dX6_least_250 : decode cX6_least 250 = .ok (.iload 6, 2) := by decide +kernel
theorem dX6_least_252 : decode cX6_least 252 = .ok (.baload, 1) := by decide +kernel
theorem dX6_least_253 : decode cX6_least 253 = .ok (.ifCond .ne 43, 3) := by decide +kernel
theorem dX6_least_256 : decode cX6_least 256 = .ok (.aload_n 0, 1) := by decide +kernel
theorem dX6_least_257 : decode cX6_least 257 = .ok (.getfield 62, 3) := by decide +kernel
theorem dX6_least_260 : decode cX6_least 260 = .ok (.iload 6, 2) := by decide +kernel
theorem dX6_least_262 : decode cX6_least 262 = .ok (.iaload, 1) := by decide +kernel
theorem dX6_least_263 : decode cX6_least 263 = .ok (.sipush 2000, 3) := by decide +kernel
theorem dX6_least_266 : decode cX6_least 266 = .ok (.if_icmp .gt 30, 3) := by decide +kernel
theorem dX6_least_269 : decode cX6_least 269 = .ok (.iload 5, 2) := by decide +kernel
theorem dX6_least_271 : decode cX6_least 271 = .ok (.ifCond .lt 20, 3) := by decide +kernel
theorem dX6_least_274 : decode cX6_least 274 = .ok (.aload_n 0, 1) := by decide +kernel
theorem dX6_least_275 : decode cX6_least 275 = .ok (.getfield 62, 3) := by decide +kernel
theorem dX6_least_278 : decode cX6_least 278 = .ok (.iload 6, 2) := by decide +kernel
theorem dX6_least_280 : decode cX6_least 280 = .ok (.iaload, 1) := by decide +kernel
theorem dX6_least_281 : decode cX6_least 281 = .ok (.aload_n 0, 1) := by decide +kernel
theorem dX6_least_282 : decode cX6_least 282 = .ok (.getfield 62, 3) := by decide +kernel
theorem dX6_least_285 : decode cX6_least 285 = .ok (.iload 5, 2) := by decide +kernel
theorem dX6_least_287 : decode cX6_least 287 = .ok (.iaload, 1) := by decide +kernel
theorem dX6_least_288 : decode cX6_least 288 = .ok (.if_icmp .ge 8, 3) := by decide +kernel
theorem dX6_least_291 : decode cX6_least 291 = .ok (.iload 6, 2) := by decide +kernel
theorem dX6_least_293 : decode cX6_least 293 = .ok (.goto 5, 3) := by decide +kernel
theorem dX6_least_296 : decode cX6_least 296 = .ok (.iload 5, 2) := by decide +kernel
theorem dX6_least_298 : decode cX6_least 298 = .ok (.istore 5, 2) := by decide +kernel
theorem dX6_least_300 : decode cX6_least 300 = .ok (.iinc 6 1, 3) := by decide +kernel
theorem dX6_least_303 : decode cX6_least 303 = .ok (.goto (-65), 3) := by decide +kernel
theorem dX6_least_306 : decode cX6_least 306 = .ok (.goto (-208), 3) := by decide +kernel
theorem dX6_least_309 : decode cX6_least 309 = .ok (.iload 5, 2) := by decide +kernel
theorem dX6_least_311 : decode cX6_least 311 = .ok (.ifCond .ge 8, 3) := by decide +kernel
theorem dX6_least_314 : decode cX6_least 314 = .ok (.bipush (-9), 2) := by decide +kernel
theorem dX6_least_316 : decode cX6_least 316 = .ok (.goto 9, 3) := by decide +kernel
theorem dX6_least_319 : decode cX6_least 319 = .ok (.aload_n 0, 1) := by decide +kernel
theorem dX6_least_320 : decode cX6_least 320 = .ok (.getfield 62, 3) := by decide +kernel
theorem dX6_least_323 : decode cX6_least 323 = .ok (.iload_n 3, 1) := by decide +kernel
theorem dX6_least_324 : decode cX6_least 324 = .ok (.iaload, 1) := by decide +kernel
theorem dX6_least_325 : decode cX6_least 325 = .ok (.ireturn, 1) := by decide +kernel
end
section
set_option maxRecDepth 20000 in
theorem ggX6_sight_X6_isShip : GoodIn wsX6_sight wsX6_isShip := goodIn_r _ [10, 11, 12, 13, 9, 14, 18, 19, 20, 21, 22, 23, 24, 25, 26, 27, 28, 29, 30, 31, 32, 33, 34, 35, 36, 37, 38, 39, 40, 41, 42, 43, 44, 45, 46, 47, 48] (by decide +kernel) (by decide +kernel)
set_option maxRecDepth 20000 in
theorem gX6_sight_X6_isShip : GoodIn wsX6_sight (wsV RX6 116 RX6 yX6_isShip wsX6_isShip) := goodIn_app (goodIn_of _ (by decide +kernel)) ggX6_sight_X6_isShip
set_option maxRecDepth 20000 in
theorem ggX6_sight_X6_isCell : GoodIn wsX6_sight wsX6_isCell := goodIn_r _ [17, 12, 13, 9, 14] (by decide +kernel) (by decide +kernel)
set_option maxRecDepth 20000 in
theorem gX6_sight_X6_isCell : GoodIn wsX6_sight (va_wsS RX6 91 yX6_isCell wsX6_isCell) := goodIn_app (goodIn_of _ (by decide +kernel)) ggX6_sight_X6_isCell
set_option maxRecDepth 20000 in
theorem ggX6_sight_X6_in : GoodIn wsX6_sight wsX6_in := goodIn_r _ [14] (by decide +kernel) (by decide +kernel)
set_option maxRecDepth 20000 in
theorem gX6_sight_X6_in : GoodIn wsX6_sight (va_wsS RX6 87 yX6_in wsX6_in) := goodIn_app (goodIn_of _ (by decide +kernel)) ggX6_sight_X6_in
theorem dX6_sight_0 : decode cX6_sight 0 = .ok (.aload_n 0, 1) := by decide +kernel
theorem dX6_sight_1 : decode cX6_sight 1 = .ok (.iload_n 1, 1) := by decide +kernel
theorem dX6_sight_2 : decode cX6_sight 2 = .ok (.invokevirtual 116, 3) := by decide +kernel
theorem dX6_sight_5 : decode cX6_sight 5 = .ok (.ifCond .eq 24, 3) := by decide +kernel
theorem dX6_sight_8 : decode cX6_sight 8 = .ok (.iload_n 2, 1) := by decide +kernel
theorem dX6_sight_9 : decode cX6_sight 9 = .ok (.invokestatic 91, 3) := by decide +kernel
theorem dX6_sight_12 : decode cX6_sight 12 = .ok (.ifCond .eq 17, 3) := by decide +kernel
theorem dX6_sight_15 : decode cX6_sight 15 = .ok (.iload_n 3, 1) := by decide +kernel
theorem dX6_sight_16 : decode cX6_sight 16 = .ok (.iconst 0, 1) := by decide +kernel
theorem dX6_sight_17 : decode cX6_sight 17 = .ok (.ldc 152, 2) := by decide +kernel
theorem dX6_sight_19 : decode cX6_sight 19 = .ok (.invokestatic 87, 3) := by decide +kernel
theorem dX6_sight_22 : decode cX6_sight 22 = .ok (.ifCond .eq 7, 3) := by decide +kernel
theorem dX6_sight_25 : decode cX6_sight 25 = .ok (.iconst 1, 1) := by decide +kernel
theorem dX6_sight_26 : decode cX6_sight 26 = .ok (.goto 4, 3) := by decide +kernel
theorem dX6_sight_29 : decode cX6_sight 29 = .ok (.iconst 0, 1) := by decide +kernel
theorem dX6_sight_30 : decode cX6_sight 30 = .ok (.istore 4, 2) := by decide +kernel
theorem dX6_sight_32 : decode cX6_sight 32 = .ok (.iconst 0, 1) := by decide +kernel
theorem dX6_sight_33 : decode cX6_sight 33 = .ok (.istore 5, 2) := by decide +kernel
theorem dX6_sight_35 : decode cX6_sight 35 = .ok (.iload 5, 2) := by decide +kernel
theorem dX6_sight_37 : decode cX6_sight 37 = .ok (.aload_n 0, 1) := by decide +kernel
theorem dX6_sight_38 : decode cX6_sight 38 = .ok (.getfield 168, 3) := by decide +kernel
theorem dX6_sight_41 : decode cX6_sight 41 = .ok (.if_icmp .ge 43, 3) := by decide +kernel
theorem dX6_sight_44 : decode cX6_sight 44 = .ok (.iload 4, 2) := by decide +kernel
theorem dX6_sight_46 : decode cX6_sight 46 = .ok (.ifCond .eq 29, 3) := by decide +kernel
theorem dX6_sight_49 : decode cX6_sight 49 = .ok (.aload_n 0, 1) := by decide +kernel
theorem dX6_sight_50 : decode cX6_sight 50 = .ok (.getfield 68, 3) := by decide +kernel
theorem dX6_sight_53 : decode cX6_sight 53 = .ok (.iload 5, 2) := by decide +kernel
theorem dX6_sight_55 : decode cX6_sight 55 = .ok (.iaload, 1) := by decide +kernel
theorem dX6_sight_56 : decode cX6_sight 56 = .ok (.iload_n 1, 1) := by decide +kernel
theorem dX6_sight_57 : decode cX6_sight 57 = .ok (.if_icmp .ne 14, 3) := by decide +kernel
theorem dX6_sight_60 : decode cX6_sight 60 = .ok (.aload_n 0, 1) := by decide +kernel
theorem dX6_sight_61 : decode cX6_sight 61 = .ok (.getfield 74, 3) := by decide +kernel
theorem dX6_sight_64 : decode cX6_sight 64 = .ok (.iload 5, 2) := by decide +kernel
theorem dX6_sight_66 : decode cX6_sight 66 = .ok (.iaload, 1) := by decide +kernel
theorem dX6_sight_67 : decode cX6_sight 67 = .ok (.iload_n 3, 1) := by decide +kernel
theorem dX6_sight_68 : decode cX6_sight 68 = .ok (.if_icmp .ge 7, 3) := by decide +kernel
theorem dX6_sight_71 : decode cX6_sight 71 = .ok (.iconst 1, 1) := by decide +kernel
theorem dX6_sight_72 : decode cX6_sight 72 = .ok (.goto 4, 3) := by decide +kernel
theorem dX6_sight_75 : decode cX6_sight 75 = .ok (.iconst 0, 1) := by decide +kernel
theorem dX6_sight_76 : decode cX6_sight 76 = .ok (.istore 4, 2) := by decide +kernel
theorem dX6_sight_78 : decode cX6_sight 78 = .ok (.iinc 5 1, 3) := by decide +kernel
theorem dX6_sight_81 : decode cX6_sight 81 = .ok (.goto (-46), 3) := by decide +kernel
theorem dX6_sight_84 : decode cX6_sight 84 = .ok (.iload 4, 2) := by decide +kernel
theorem dX6_sight_86 : decode cX6_sight 86 = .ok (.ifCond .ne 5, 3) := by decide +kernel
theorem dX6_sight_89 : decode cX6_sight 89 = .ok (.iconst (-1), 1) := by decide +kernel
theorem dX6_sight_90 : decode cX6_sight 90 = .ok (.ireturn, 1) := by decide +kernel
theorem dX6_sight_91 : decode cX6_sight 91 = .ok (.aload_n 0, 1) := by decide +kernel
theorem dX6_sight_92 : decode cX6_sight 92 = .ok (.getfield 168, 3) := by decide +kernel
theorem dX6_sight_95 : decode cX6_sight 95 = .ok (.bipush 60, 2) := by decide +kernel
theorem dX6_sight_97 : decode cX6_sight 97 = .ok (.if_icmp .ne 6, 3) := by decide +kernel
theorem dX6_sight_100 : decode cX6_sight 100 = .ok (.bipush (-2), 2) := by decide +kernel
theorem dX6_sight_102 : decode cX6_sight 102 = .ok (.ireturn, 1) := by decide +kernel
theorem dX6_sight_103 : decode cX6_sight 103 = .ok (.aload_n 0, 1) := by decide +kernel
theorem dX6_sight_104 : decode cX6_sight 104 = .ok (.getfield 68, 3) := by decide +kernel
theorem dX6_sight_107 : decode cX6_sight 107 = .ok (.aload_n 0, 1) := by decide +kernel
theorem dX6_sight_108 : decode cX6_sight 108 = .ok (.getfield 168, 3) := by decide +kernel
theorem dX6_sight_111 : decode cX6_sight 111 = .ok (.iload_n 1, 1) := by decide +kernel
theorem dX6_sight_112 : decode cX6_sight 112 = .ok (.iastore, 1) := by decide +kernel
theorem dX6_sight_113 : decode cX6_sight 113 = .ok (.aload_n 0, 1) := by decide +kernel
theorem dX6_sight_114 : decode cX6_sight 114 = .ok (.getfield 71, 3) := by decide +kernel
theorem dX6_sight_117 : decode cX6_sight 117 = .ok (.aload_n 0, 1) := by decide +kernel
theorem dX6_sight_118 : decode cX6_sight 118 = .ok (.getfield 168, 3) := by decide +kernel
theorem dX6_sight_121 : decode cX6_sight 121 = .ok (.iload_n 2, 1) := by decide +kernel
theorem dX6_sight_122 : decode cX6_sight 122 = .ok (.iastore, 1) := by decide +kernel
theorem dX6_sight_123 : decode cX6_sight 123 = .ok (.aload_n 0, 1) := by decide +kernel
theorem dX6_sight_124 : decode cX6_sight 124 = .ok (.getfield 74, 3) := by decide +kernel
theorem dX6_sight_127 : decode cX6_sight 127 = .ok (.aload_n 0, 1) := by decide +kernel
theorem dX6_sight_128 : decode cX6_sight 128 = .ok (.getfield 168, 3) := by decide +kernel
theorem dX6_sight_131 : decode cX6_sight 131 = .ok (.iload_n 3, 1) := by decide +kernel
theorem dX6_sight_132 : decode cX6_sight 132 = .ok (.iastore, 1) := by decide +kernel
theorem dX6_sight_133 : decode cX6_sight 133 = .ok (.aload_n 0, 1) := by decide +kernel
theorem dX6_sight_134 : decode cX6_sight 134 = .ok (.dup, 1) := by decide +kernel
theorem dX6_sight_135 : decode cX6_sight 135 = .ok (.getfield 168, 3) := by decide +kernel
theorem dX6_sight_138 : decode cX6_sight 138 = .ok (.iconst 1, 1) := by decide +kernel
theorem dX6_sight_139 : decode cX6_sight 139 = .ok (.iadd, 1) := by decide +kernel
theorem dX6_sight_140 : decode cX6_sight 140 = .ok (.putfield 168, 3) := by decide +kernel
theorem dX6_sight_143 : decode cX6_sight 143 = .ok (.aload_n 0, 1) := by decide +kernel
theorem dX6_sight_144 : decode cX6_sight 144 = .ok (.getfield 168, 3) := by decide +kernel
theorem dX6_sight_147 : decode cX6_sight 147 = .ok (.ireturn, 1) := by decide +kernel
theorem dX6_apart_0 : decode cX6_apart 0 = .ok (.iload_n 0, 1) := by decide +kernel
theorem dX6_apart_1 : decode cX6_apart 1 = .ok (.iload_n 1, 1) := by decide +kernel
theorem dX6_apart_2 : decode cX6_apart 2 = .ok (.if_icmp .le 9, 3) := by decide +kernel
theorem dX6_apart_5 : decode cX6_apart 5 = .ok (.iload_n 0, 1) := by decide +kernel
theorem dX6_apart_6 : decode cX6_apart 6 = .ok (.iload_n 1, 1) := by decide +kernel
theorem dX6_apart_7 : decode cX6_apart 7 = .ok (.isub, 1) := by decide +kernel
theorem dX6_apart_8 : decode cX6_apart 8 = .ok (.goto 6, 3) := by decide +kernel
theorem dX6_apart_11 : decode cX6_apart 11 = .ok (.iload_n 1, 1) := by decide +kernel
theorem dX6_apart_12 : decode cX6_apart 12 = .ok (.iload_n 0, 1) := by decide +kernel
theorem dX6_apart_13 : decode cX6_apart 13 = .ok (.isub, 1) := by decide +kernel
theorem dX6_apart_14 : decode cX6_apart 14 = .ok (.ireturn, 1) := by decide +kernel
set_option maxRecDepth 20000 in
theorem ggX6_farOf_X6_apart : GoodIn wsX6_farOf wsX6_apart := goodIn_r _ [5] (by decide +kernel) (by decide +kernel)
set_option maxRecDepth 20000 in
theorem gX6_farOf_X6_apart : GoodIn wsX6_farOf (va_wsS RX6 171 yX6_apart wsX6_apart) := goodIn_app (goodIn_of _ (by decide +kernel)) ggX6_farOf_X6_apart
theorem dX6_farOf_0 : decode cX6_farOf 0 = .ok (.iload_n 1, 1) := by decide +kernel
theorem dX6_farOf_1 : decode cX6_farOf 1 = .ok (.bipush 16, 2) := by decide +kernel
theorem dX6_farOf_3 : decode cX6_farOf 3 = .ok (.irem, 1) := by decide +kernel
theorem dX6_farOf_4 : decode cX6_farOf 4 = .ok (.aload_n 0, 1) := by decide +kernel
theorem dX6_farOf_5 : decode cX6_farOf 5 = .ok (.getfield 136, 3) := by decide +kernel
theorem dX6_farOf_8 : decode cX6_farOf 8 = .ok (.bipush 16, 2) := by decide +kernel
theorem dX6_farOf_10 : decode cX6_farOf 10 = .ok (.irem, 1) := by decide +kernel
theorem dX6_farOf_11 : decode cX6_farOf 11 = .ok (.invokestatic 171, 3) := by decide +kernel
theorem dX6_farOf_14 : decode cX6_farOf 14 = .ok (.istore_n 2, 1) := by decide +kernel
theorem dX6_farOf_15 : decode cX6_farOf 15 = .ok (.iload_n 1, 1) := by decide +kernel
theorem dX6_farOf_16 : decode cX6_farOf 16 = .ok (.bipush 16, 2) := by decide +kernel
theorem dX6_farOf_18 : decode cX6_farOf 18 = .ok (.idiv, 1) := by decide +kernel
theorem dX6_farOf_19 : decode cX6_farOf 19 = .ok (.aload_n 0, 1) := by decide +kernel
theorem dX6_farOf_20 : decode cX6_farOf 20 = .ok (.getfield 136, 3) := by decide +kernel
theorem dX6_farOf_23 : decode cX6_farOf 23 = .ok (.bipush 16, 2) := by decide +kernel
theorem dX6_farOf_25 : decode cX6_farOf 25 = .ok (.idiv, 1) := by decide +kernel
theorem dX6_farOf_26 : decode cX6_farOf 26 = .ok (.invokestatic 171, 3) := by decide +kernel
theorem dX6_farOf_29 : decode cX6_farOf 29 = .ok (.istore_n 3, 1) := by decide +kernel
theorem dX6_farOf_30 : decode cX6_farOf 30 = .ok (.iload_n 2, 1) := by decide +kernel
theorem dX6_farOf_31 : decode cX6_farOf 31 = .ok (.iload_n 3, 1) := by decide +kernel
theorem dX6_farOf_32 : decode cX6_farOf 32 = .ok (.if_icmp .le 7, 3) := by decide +kernel
theorem dX6_farOf_35 : decode cX6_farOf 35 = .ok (.iload_n 2, 1) := by decide +kernel
theorem dX6_farOf_36 : decode cX6_farOf 36 = .ok (.goto 4, 3) := by decide +kernel
theorem dX6_farOf_39 : decode cX6_farOf 39 = .ok (.iload_n 3, 1) := by decide +kernel
theorem dX6_farOf_40 : decode cX6_farOf 40 = .ok (.ireturn, 1) := by decide +kernel
set_option maxRecDepth 20000 in
theorem ggX6_distanceOf_X6_farOf : GoodIn wsX6_distanceOf wsX6_farOf := goodIn_r _ [9, 10, 11, 12, 8, 13, 14, 15, 16, 17, 18, 19, 20, 21, 22, 23, 24, 25, 26, 27, 28, 29, 30, 31, 32, 33, 34, 35, 36, 37, 38, 39, 40, 41, 42, 43, 44] (by decide +kernel) (by decide +kernel)
set_option maxRecDepth 20000 in
theorem gX6_distanceOf_X6_farOf : GoodIn wsX6_distanceOf (wsV RX6 174 RX6 yX6_farOf wsX6_farOf) := goodIn_app (goodIn_of _ (by decide +kernel)) ggX6_distanceOf_X6_farOf
theorem dX6_distanceOf_0 : decode cX6_distanceOf 0 = .ok (.bipush (-9), 2) := by decide +kernel
theorem dX6_distanceOf_2 : decode cX6_distanceOf 2 = .ok (.istore 4, 2) := by decide +kernel
theorem dX6_distanceOf_4 : decode cX6_distanceOf 4 = .ok (.bipush (-9), 2) := by decide +kernel
theorem dX6_distanceOf_6 : decode cX6_distanceOf 6 = .ok (.istore 5, 2) := by decide +kernel
theorem dX6_distanceOf_8 : decode cX6_distanceOf 8 = .ok (.iconst 0, 1) := by decide +kernel
theorem dX6_distanceOf_9 : decode cX6_distanceOf 9 = .ok (.istore 6, 2) := by decide +kernel
theorem dX6_distanceOf_11 : decode cX6_distanceOf 11 = .ok (.iload 6, 2) := by decide +kernel
theorem dX6_distanceOf_13 : decode cX6_distanceOf 13 = .ok (.aload_n 0, 1) := by decide +kernel
theorem dX6_distanceOf_14 : decode cX6_distanceOf 14 = .ok (.getfield 168, 3) := by decide +kernel
theorem dX6_distanceOf_17 : decode cX6_distanceOf 17 = .ok (.if_icmp .ge 65, 3) := by decide +kernel
theorem dX6_distanceOf_20 : decode cX6_distanceOf 20 = .ok (.aload_n 0, 1) := by decide +kernel
theorem dX6_distanceOf_21 : decode cX6_distanceOf 21 = .ok (.getfield 68, 3) := by decide +kernel
theorem dX6_distanceOf_24 : decode cX6_distanceOf 24 = .ok (.iload 6, 2) := by decide +kernel
theorem dX6_distanceOf_26 : decode cX6_distanceOf 26 = .ok (.iaload, 1) := by decide +kernel
theorem dX6_distanceOf_27 : decode cX6_distanceOf 27 = .ok (.iload_n 1, 1) := by decide +kernel
theorem dX6_distanceOf_28 : decode cX6_distanceOf 28 = .ok (.if_icmp .ne 48, 3) := by decide +kernel
theorem dX6_distanceOf_31 : decode cX6_distanceOf 31 = .ok (.aload_n 0, 1) := by decide +kernel
theorem dX6_distanceOf_32 : decode cX6_distanceOf 32 = .ok (.getfield 74, 3) := by decide +kernel
theorem dX6_distanceOf_35 : decode cX6_distanceOf 35 = .ok (.iload 6, 2) := by decide +kernel
theorem dX6_distanceOf_37 : decode cX6_distanceOf 37 = .ok (.iaload, 1) := by decide +kernel
theorem dX6_distanceOf_38 : decode cX6_distanceOf 38 = .ok (.iload_n 2, 1) := by decide +kernel
theorem dX6_distanceOf_39 : decode cX6_distanceOf 39 = .ok (.if_icmp .gt 8, 3) := by decide +kernel
theorem dX6_distanceOf_42 : decode cX6_distanceOf 42 = .ok (.iload 6, 2) := by decide +kernel
theorem dX6_distanceOf_44 : decode cX6_distanceOf 44 = .ok (.goto 5, 3) := by decide +kernel
theorem dX6_distanceOf_47 : decode cX6_distanceOf 47 = .ok (.iload 4, 2) := by decide +kernel
theorem dX6_distanceOf_49 : decode cX6_distanceOf 49 = .ok (.istore 4, 2) := by decide +kernel
theorem dX6_distanceOf_51 : decode cX6_distanceOf 51 = .ok (.iload 5, 2) := by decide +kernel
theorem dX6_distanceOf_53 : decode cX6_distanceOf 53 = .ok (.ifCond .ge 19, 3) := by decide +kernel
theorem dX6_distanceOf_56 : decode cX6_distanceOf 56 = .ok (.aload_n 0, 1) := by decide +kernel
theorem dX6_distanceOf_57 : decode cX6_distanceOf 57 = .ok (.getfield 74, 3) := by decide +kernel
theorem dX6_distanceOf_60 : decode cX6_distanceOf 60 = .ok (.iload 6, 2) := by decide +kernel
theorem dX6_distanceOf_62 : decode cX6_distanceOf 62 = .ok (.iaload, 1) := by decide +kernel
theorem dX6_distanceOf_63 : decode cX6_distanceOf 63 = .ok (.iload_n 2, 1) := by decide +kernel
theorem dX6_distanceOf_64 : decode cX6_distanceOf 64 = .ok (.if_icmp .lt 8, 3) := by decide +kernel
theorem dX6_distanceOf_67 : decode cX6_distanceOf 67 = .ok (.iload 6, 2) := by decide +kernel
theorem dX6_distanceOf_69 : decode cX6_distanceOf 69 = .ok (.goto 5, 3) := by decide +kernel
theorem dX6_distanceOf_72 : decode cX6_distanceOf 72 = .ok (.iload 5, 2) := by decide +kernel
theorem dX6_distanceOf_74 : decode cX6_distanceOf 74 = .ok (.istore 5, 2) := by decide +kernel
theorem dX6_distanceOf_76 : decode cX6_distanceOf 76 = .ok (.iinc 6 1, 3) := by decide +kernel
theorem dX6_distanceOf_79 : decode cX6_distanceOf 79 = .ok (.goto (-68), 3) := by decide +kernel
theorem dX6_distanceOf_82 : decode cX6_distanceOf 82 = .ok (.iload 4, 2) := by decide +kernel
theorem dX6_distanceOf_84 : decode cX6_distanceOf 84 = .ok (.ifCond .lt 8, 3) := by decide +kernel
theorem dX6_distanceOf_87 : decode cX6_distanceOf 87 = .ok (.iload 5, 2) := by decide +kernel
theorem dX6_distanceOf_89 : decode cX6_distanceOf 89 = .ok (.ifCond .ge 6, 3) := by decide +kernel
theorem dX6_distanceOf_92 : decode cX6_distanceOf 92 = .ok (.bipush (-9), 2) := by decide +kernel
theorem dX6_distanceOf_94 : decode cX6_distanceOf 94 = .ok (.ireturn, 1) := by decide +kernel
theorem dX6_distanceOf_95 : decode cX6_distanceOf 95 = .ok (.iload_n 2, 1) := by decide +kernel
theorem dX6_distanceOf_96 : decode cX6_distanceOf 96 = .ok (.aload_n 0, 1) := by decide +kernel
theorem dX6_distanceOf_97 : decode cX6_distanceOf 97 = .ok (.getfield 74, 3) := by decide +kernel
theorem dX6_distanceOf_100 : decode cX6_distanceOf 100 = .ok (.iload 4, 2) := by decide +kernel
theorem dX6_distanceOf_102 : decode cX6_distanceOf 102 = .ok (.iaload, 1) := by decide +kernel
theorem dX6_distanceOf_103 : decode cX6_distanceOf 103 = .ok (.isub, 1) := by decide +kernel
theorem dX6_distanceOf_104 : decode cX6_distanceOf 104 = .ok (.istore 6, 2) := by decide +kernel
theorem dX6_distanceOf_106 : decode cX6_distanceOf 106 = .ok (.aload_n 0, 1) := by decide +kernel
theorem dX6_distanceOf_107 : decode cX6_distanceOf 107 = .ok (.getfield 74, 3) := by decide +kernel
theorem dX6_distanceOf_110 : decode cX6_distanceOf 110 = .ok (.iload 5, 2) := by decide +kernel
theorem dX6_distanceOf_112 : decode cX6_distanceOf 112 = .ok (.iaload, 1) := by decide +kernel
theorem dX6_distanceOf_113 : decode cX6_distanceOf 113 = .ok (.iload_n 2, 1) := by decide +kernel
theorem dX6_distanceOf_114 : decode cX6_distanceOf 114 = .ok (.isub, 1) := by decide +kernel
theorem dX6_distanceOf_115 : decode cX6_distanceOf 115 = .ok (.istore 7, 2) := by decide +kernel
theorem dX6_distanceOf_117 : decode cX6_distanceOf 117 = .ok (.aload_n 0, 1) := by decide +kernel
theorem dX6_distanceOf_118 : decode cX6_distanceOf 118 = .ok (.aload_n 0, 1) := by decide +kernel
theorem dX6_distanceOf_119 : decode cX6_distanceOf 119 = .ok (.getfield 71, 3) := by decide +kernel
theorem dX6_distanceOf_122 : decode cX6_distanceOf 122 = .ok (.iload 4, 2) := by decide +kernel
theorem dX6_distanceOf_124 : decode cX6_distanceOf 124 = .ok (.iaload, 1) := by decide +kernel
theorem dX6_distanceOf_125 : decode cX6_distanceOf 125 = .ok (.invokevirtual 174, 3) := by decide +kernel
theorem dX6_distanceOf_128 : decode cX6_distanceOf 128 = .ok (.iload_n 3, 1) := by decide +kernel
theorem dX6_distanceOf_129 : decode cX6_distanceOf 129 = .ok (.ifCond .eq 8, 3) := by decide +kernel
theorem dX6_distanceOf_132 : decode cX6_distanceOf 132 = .ok (.iload 6, 2) := by decide +kernel
theorem dX6_distanceOf_134 : decode cX6_distanceOf 134 = .ok (.goto 6, 3) := by decide +kernel
theorem dX6_distanceOf_137 : decode cX6_distanceOf 137 = .ok (.iload 6, 2) := by decide +kernel
theorem dX6_distanceOf_139 : decode cX6_distanceOf 139 = .ok (.ineg, 1) := by decide +kernel
theorem dX6_distanceOf_140 : decode cX6_distanceOf 140 = .ok (.iadd, 1) := by decide +kernel
theorem dX6_distanceOf_141 : decode cX6_distanceOf 141 = .ok (.istore 8, 2) := by decide +kernel
theorem dX6_distanceOf_143 : decode cX6_distanceOf 143 = .ok (.aload_n 0, 1) := by decide +kernel
theorem dX6_distanceOf_144 : decode cX6_distanceOf 144 = .ok (.aload_n 0, 1) := by decide +kernel
theorem dX6_distanceOf_145 : decode cX6_distanceOf 145 = .ok (.getfield 71, 3) := by decide +kernel
theorem dX6_distanceOf_148 : decode cX6_distanceOf 148 = .ok (.iload 5, 2) := by decide +kernel
theorem dX6_distanceOf_150 : decode cX6_distanceOf 150 = .ok (.iaload, 1) := by decide +kernel
theorem dX6_distanceOf_151 : decode cX6_distanceOf 151 = .ok (.invokevirtual 174, 3) := by decide +kernel
theorem dX6_distanceOf_154 : decode cX6_distanceOf 154 = .ok (.iload_n 3, 1) := by decide +kernel
theorem dX6_distanceOf_155 : decode cX6_distanceOf 155 = .ok (.ifCond .eq 8, 3) := by decide +kernel
theorem dX6_distanceOf_158 : decode cX6_distanceOf 158 = .ok (.iload 7, 2) := by decide +kernel
theorem dX6_distanceOf_160 : decode cX6_distanceOf 160 = .ok (.goto 6, 3) := by decide +kernel
theorem dX6_distanceOf_163 : decode cX6_distanceOf 163 = .ok (.iload 7, 2) := by decide +kernel
theorem dX6_distanceOf_165 : decode cX6_distanceOf 165 = .ok (.ineg, 1) := by decide +kernel
theorem dX6_distanceOf_166 : decode cX6_distanceOf 166 = .ok (.iadd, 1) := by decide +kernel
theorem dX6_distanceOf_167 : decode cX6_distanceOf 167 = .ok (.istore 9, 2) := by decide +kernel
theorem dX6_distanceOf_169 : decode cX6_distanceOf 169 = .ok (.iload_n 3, 1) := by decide +kernel
theorem dX6_distanceOf_170 : decode cX6_distanceOf 170 = .ok (.iload 8, 2) := by decide +kernel
theorem dX6_distanceOf_172 : decode cX6_distanceOf 172 = .ok (.iload 9, 2) := by decide +kernel
theorem dX6_distanceOf_174 : decode cX6_distanceOf 174 = .ok (.if_icmp .ge 7, 3) := by decide +kernel
theorem dX6_distanceOf_177 : decode cX6_distanceOf 177 = .ok (.iconst 1, 1) := by decide +kernel
theorem dX6_distanceOf_178 : decode cX6_distanceOf 178 = .ok (.goto 4, 3) := by decide +kernel
theorem dX6_distanceOf_181 : decode cX6_distanceOf 181 = .ok (.iconst 0, 1) := by decide +kernel
theorem dX6_distanceOf_182 : decode cX6_distanceOf 182 = .ok (.if_icmp .ne 8, 3) := by decide +kernel
theorem dX6_distanceOf_185 : decode cX6_distanceOf 185 = .ok (.iload 8, 2) := by decide +kernel
theorem dX6_distanceOf_187 : decode cX6_distanceOf 187 = .ok (.goto 5, 3) := by decide +kernel
theorem dX6_distanceOf_190 : decode cX6_distanceOf 190 = .ok (.iload 9, 2) := by decide +kernel
theorem dX6_distanceOf_192 : decode cX6_distanceOf 192 = .ok (.istore 10, 2) := by decide +kernel
theorem dX6_distanceOf_194 : decode cX6_distanceOf 194 = .ok (.iload 10, 2) := by decide +kernel
theorem dX6_distanceOf_196 : decode cX6_distanceOf 196 = .ok (.ifCond .ge 7, 3) := by decide +kernel
theorem dX6_distanceOf_199 : decode cX6_distanceOf 199 = .ok (.iconst 0, 1) := by decide +kernel
theorem dX6_distanceOf_200 : decode cX6_distanceOf 200 = .ok (.goto 5, 3) := by decide +kernel
theorem dX6_distanceOf_203 : decode cX6_distanceOf 203 = .ok (.iload 10, 2) := by decide +kernel
theorem dX6_distanceOf_205 : decode cX6_distanceOf 205 = .ok (.ireturn, 1) := by decide +kernel
set_option maxRecDepth 20000 in
theorem ggX6_distance_X6_isShip : GoodIn wsX6_distance wsX6_isShip := goodIn_r _ [6, 7, 8, 9, 5, 10, 27, 28, 29, 30, 31, 32, 33, 34, 35, 36, 37, 38, 39, 40, 41, 42, 43, 44, 45, 46, 47, 48, 49, 50, 51, 52, 53, 54, 55, 56, 57] (by decide +kernel) (by decide +kernel)
set_option maxRecDepth 20000 in
theorem gX6_distance_X6_isShip : GoodIn wsX6_distance (wsV RX6 116 RX6 yX6_isShip wsX6_isShip) := goodIn_app (goodIn_of _ (by decide +kernel)) ggX6_distance_X6_isShip
set_option maxRecDepth 20000 in
theorem ggX6_distance_X6_in : GoodIn wsX6_distance wsX6_in := goodIn_r _ [10] (by decide +kernel) (by decide +kernel)
set_option maxRecDepth 20000 in
theorem gX6_distance_X6_in : GoodIn wsX6_distance (va_wsS RX6 87 yX6_in wsX6_in) := goodIn_app (goodIn_of _ (by decide +kernel)) ggX6_distance_X6_in
set_option maxRecDepth 20000 in
theorem ggX6_distance_X6_distanceOf : GoodIn wsX6_distance wsX6_distanceOf := goodIn_r _ [14, 15, 16, 17, 18, 19, 20, 21, 5, 22, 23, 24, 25, 26, 27, 28, 29, 30, 31, 32, 33, 34, 35, 36, 37, 38, 39, 40, 41, 42, 43, 44, 45, 46, 47, 48, 49, 50, 51, 52, 53, 54, 55, 56, 57] (by decide +kernel) (by decide +kernel)
set_option maxRecDepth 20000 in
theorem gX6_distance_X6_distanceOf : GoodIn wsX6_distance (wsV RX6 177 RX6 yX6_distanceOf wsX6_distanceOf) := goodIn_app (goodIn_of _ (by decide +kernel)) ggX6_distance_X6_distanceOf
theorem dX6_distance_0 : decode cX6_distance 0 = .ok (.aload_n 0, 1) := by decide +kernel
theorem dX6_distance_1 : decode cX6_distance 1 = .ok (.iload_n 1, 1) := by decide +kernel
theorem dX6_distance_2 : decode cX6_distance 2 = .ok (.invokevirtual 116, 3) := by decide +kernel
theorem dX6_distance_5 : decode cX6_distance 5 = .ok (.ifCond .eq 23, 3) := by decide +kernel
theorem dX6_distance_8 : decode cX6_distance 8 = .ok (.iload_n 2, 1) := by decide +kernel
theorem dX6_distance_9 : decode cX6_distance 9 = .ok (.iconst 0, 1) := by decide +kernel
theorem dX6_distance_10 : decode cX6_distance 10 = .ok (.ldc 152, 2) := by decide +kernel
theorem dX6_distance_12 : decode cX6_distance 12 = .ok (.invokestatic 87, 3) := by decide +kernel
theorem dX6_distance_15 : decode cX6_distance 15 = .ok (.ifCond .eq 13, 3) := by decide +kernel
theorem dX6_distance_18 : decode cX6_distance 18 = .ok (.aload_n 0, 1) := by decide +kernel
theorem dX6_distance_19 : decode cX6_distance 19 = .ok (.iload_n 1, 1) := by decide +kernel
theorem dX6_distance_20 : decode cX6_distance 20 = .ok (.iload_n 2, 1) := by decide +kernel
theorem dX6_distance_21 : decode cX6_distance 21 = .ok (.iload_n 3, 1) := by decide +kernel
theorem dX6_distance_22 : decode cX6_distance 22 = .ok (.invokevirtual 177, 3) := by decide +kernel
theorem dX6_distance_25 : decode cX6_distance 25 = .ok (.goto 4, 3) := by decide +kernel
theorem dX6_distance_28 : decode cX6_distance 28 = .ok (.iconst (-1), 1) := by decide +kernel
theorem dX6_distance_29 : decode cX6_distance 29 = .ok (.ireturn, 1) := by decide +kernel
set_option maxRecDepth 20000 in
theorem ggX6_ahead_X6_isShip : GoodIn wsX6_ahead wsX6_isShip := goodIn_r _ [6, 7, 8, 9, 5, 10, 27, 28, 29, 30, 31, 32, 33, 34, 35, 36, 37, 38, 39, 40, 41, 42, 43, 44, 45, 46, 47, 48, 49, 50, 51, 52, 53, 54, 55, 56, 57] (by decide +kernel) (by decide +kernel)
set_option maxRecDepth 20000 in
theorem gX6_ahead_X6_isShip : GoodIn wsX6_ahead (wsV RX6 116 RX6 yX6_isShip wsX6_isShip) := goodIn_app (goodIn_of _ (by decide +kernel)) ggX6_ahead_X6_isShip
set_option maxRecDepth 20000 in
theorem ggX6_ahead_X6_in : GoodIn wsX6_ahead wsX6_in := goodIn_r _ [10] (by decide +kernel) (by decide +kernel)
set_option maxRecDepth 20000 in
theorem gX6_ahead_X6_in : GoodIn wsX6_ahead (va_wsS RX6 87 yX6_in wsX6_in) := goodIn_app (goodIn_of _ (by decide +kernel)) ggX6_ahead_X6_in
set_option maxRecDepth 20000 in
theorem ggX6_ahead_X6_distanceOf : GoodIn wsX6_ahead wsX6_distanceOf := goodIn_r _ [14, 15, 16, 17, 18, 19, 20, 21, 5, 22, 23, 24, 25, 26, 27, 28, 29, 30, 31, 32, 33, 34, 35, 36, 37, 38, 39, 40, 41, 42, 43, 44, 45, 46, 47, 48, 49, 50, 51, 52, 53, 54, 55, 56, 57] (by decide +kernel) (by decide +kernel)
set_option maxRecDepth 20000 in
theorem gX6_ahead_X6_distanceOf : GoodIn wsX6_ahead (wsV RX6 177 RX6 yX6_distanceOf wsX6_distanceOf) := goodIn_app (goodIn_of _ (by decide +kernel)) ggX6_ahead_X6_distanceOf
theorem dX6_ahead_0 : decode cX6_ahead 0 = .ok (.aload_n 0, 1) := by decide +kernel
theorem dX6_ahead_1 : decode cX6_ahead 1 = .ok (.iload_n 1, 1) := by decide +kernel
theorem dX6_ahead_2 : decode cX6_ahead 2 = .ok (.invokevirtual 116, 3) := by decide +kernel
theorem dX6_ahead_5 : decode cX6_ahead 5 = .ok (.ifCond .eq 26, 3) := by decide +kernel
theorem dX6_ahead_8 : decode cX6_ahead 8 = .ok (.aload_n 0, 1) := by decide +kernel
theorem dX6_ahead_9 : decode cX6_ahead 9 = .ok (.iload_n 2, 1) := by decide +kernel
theorem dX6_ahead_10 : decode cX6_ahead 10 = .ok (.invokevirtual 116, 3) := by decide +kernel
theorem dX6_ahead_13 : decode cX6_ahead 13 = .ok (.ifCond .eq 18, 3) := by decide +kernel
theorem dX6_ahead_16 : decode cX6_ahead 16 = .ok (.iload_n 1, 1) := by decide +kernel
theorem dX6_ahead_17 : decode cX6_ahead 17 = .ok (.iload_n 2, 1) := by decide +kernel
theorem dX6_ahead_18 : decode cX6_ahead 18 = .ok (.if_icmp .eq 13, 3) := by decide +kernel
theorem dX6_ahead_21 : decode cX6_ahead 21 = .ok (.iload_n 3, 1) := by decide +kernel
theorem dX6_ahead_22 : decode cX6_ahead 22 = .ok (.iconst 0, 1) := by decide +kernel
theorem dX6_ahead_23 : decode cX6_ahead 23 = .ok (.ldc 152, 2) := by decide +kernel
theorem dX6_ahead_25 : decode cX6_ahead 25 = .ok (.invokestatic 87, 3) := by decide +kernel
theorem dX6_ahead_28 : decode cX6_ahead 28 = .ok (.ifCond .ne 5, 3) := by decide +kernel
theorem dX6_ahead_31 : decode cX6_ahead 31 = .ok (.iconst (-1), 1) := by decide +kernel
theorem dX6_ahead_32 : decode cX6_ahead 32 = .ok (.ireturn, 1) := by decide +kernel
theorem dX6_ahead_33 : decode cX6_ahead 33 = .ok (.aload_n 0, 1) := by decide +kernel
theorem dX6_ahead_34 : decode cX6_ahead 34 = .ok (.iload_n 1, 1) := by decide +kernel
theorem dX6_ahead_35 : decode cX6_ahead 35 = .ok (.iload_n 3, 1) := by decide +kernel
theorem dX6_ahead_36 : decode cX6_ahead 36 = .ok (.iconst 0, 1) := by decide +kernel
theorem dX6_ahead_37 : decode cX6_ahead 37 = .ok (.invokevirtual 177, 3) := by decide +kernel
theorem dX6_ahead_40 : decode cX6_ahead 40 = .ok (.istore 4, 2) := by decide +kernel
theorem dX6_ahead_42 : decode cX6_ahead 42 = .ok (.aload_n 0, 1) := by decide +kernel
theorem dX6_ahead_43 : decode cX6_ahead 43 = .ok (.iload_n 2, 1) := by decide +kernel
theorem dX6_ahead_44 : decode cX6_ahead 44 = .ok (.iload_n 3, 1) := by decide +kernel
theorem dX6_ahead_45 : decode cX6_ahead 45 = .ok (.iconst 0, 1) := by decide +kernel
theorem dX6_ahead_46 : decode cX6_ahead 46 = .ok (.invokevirtual 177, 3) := by decide +kernel
theorem dX6_ahead_49 : decode cX6_ahead 49 = .ok (.istore 5, 2) := by decide +kernel
theorem dX6_ahead_51 : decode cX6_ahead 51 = .ok (.iload 4, 2) := by decide +kernel
theorem dX6_ahead_53 : decode cX6_ahead 53 = .ok (.bipush (-9), 2) := by decide +kernel
theorem dX6_ahead_55 : decode cX6_ahead 55 = .ok (.if_icmp .eq 10, 3) := by decide +kernel
theorem dX6_ahead_58 : decode cX6_ahead 58 = .ok (.iload 5, 2) := by decide +kernel
theorem dX6_ahead_60 : decode cX6_ahead 60 = .ok (.bipush (-9), 2) := by decide +kernel
theorem dX6_ahead_62 : decode cX6_ahead 62 = .ok (.if_icmp .ne 6, 3) := by decide +kernel
theorem dX6_ahead_65 : decode cX6_ahead 65 = .ok (.bipush (-9), 2) := by decide +kernel
theorem dX6_ahead_67 : decode cX6_ahead 67 = .ok (.ireturn, 1) := by decide +kernel
theorem dX6_ahead_68 : decode cX6_ahead 68 = .ok (.aload_n 0, 1) := by decide +kernel
theorem dX6_ahead_69 : decode cX6_ahead 69 = .ok (.iload_n 1, 1) := by decide +kernel
theorem dX6_ahead_70 : decode cX6_ahead 70 = .ok (.iload_n 3, 1) := by decide +kernel
theorem dX6_ahead_71 : decode cX6_ahead 71 = .ok (.iconst 1, 1) := by decide +kernel
theorem dX6_ahead_72 : decode cX6_ahead 72 = .ok (.invokevirtual 177, 3) := by decide +kernel
theorem dX6_ahead_75 : decode cX6_ahead 75 = .ok (.iload 5, 2) := by decide +kernel
theorem dX6_ahead_77 : decode cX6_ahead 77 = .ok (.if_icmp .ge 7, 3) := by decide +kernel
theorem dX6_ahead_80 : decode cX6_ahead 80 = .ok (.iconst 0, 1) := by decide +kernel
theorem dX6_ahead_81 : decode cX6_ahead 81 = .ok (.goto 20, 3) := by decide +kernel
theorem dX6_ahead_84 : decode cX6_ahead 84 = .ok (.aload_n 0, 1) := by decide +kernel
theorem dX6_ahead_85 : decode cX6_ahead 85 = .ok (.iload_n 2, 1) := by decide +kernel
theorem dX6_ahead_86 : decode cX6_ahead 86 = .ok (.iload_n 3, 1) := by decide +kernel
theorem dX6_ahead_87 : decode cX6_ahead 87 = .ok (.iconst 1, 1) := by decide +kernel
theorem dX6_ahead_88 : decode cX6_ahead 88 = .ok (.invokevirtual 177, 3) := by decide +kernel
theorem dX6_ahead_91 : decode cX6_ahead 91 = .ok (.iload 4, 2) := by decide +kernel
theorem dX6_ahead_93 : decode cX6_ahead 93 = .ok (.if_icmp .ge 7, 3) := by decide +kernel
theorem dX6_ahead_96 : decode cX6_ahead 96 = .ok (.iconst 1, 1) := by decide +kernel
theorem dX6_ahead_97 : decode cX6_ahead 97 = .ok (.goto 4, 3) := by decide +kernel
theorem dX6_ahead_100 : decode cX6_ahead 100 = .ok (.iconst 2, 1) := by decide +kernel
theorem dX6_ahead_101 : decode cX6_ahead 101 = .ok (.ireturn, 1) := by decide +kernel
set_option maxRecDepth 20000 in
theorem ggX6_charter_X6_isShip : GoodIn wsX6_charter wsX6_isShip := goodIn_r _ [8, 9, 10, 11, 7, 12, 13, 14, 15, 16, 17, 18, 19, 20, 21, 22, 23, 24, 25, 26, 27, 28, 29, 30, 31, 32, 33, 34, 35, 36, 37, 38, 39, 40, 41, 42, 43] (by decide +kernel) (by decide +kernel)
set_option maxRecDepth 20000 in
theorem gX6_charter_X6_isShip : GoodIn wsX6_charter (wsV RX6 116 RX6 yX6_isShip wsX6_isShip) := goodIn_app (goodIn_of _ (by decide +kernel)) ggX6_charter_X6_isShip
set_option maxRecDepth 20000 in
theorem ggX6_charter_X6_in : GoodIn wsX6_charter wsX6_in := goodIn_r _ [12] (by decide +kernel) (by decide +kernel)
set_option maxRecDepth 20000 in
theorem gX6_charter_X6_in : GoodIn wsX6_charter (va_wsS RX6 87 yX6_in wsX6_in) := goodIn_app (goodIn_of _ (by decide +kernel)) ggX6_charter_X6_in
theorem dX6_charter_0 : decode cX6_charter 0 = .ok (.aload_n 0, 1) := by decide +kernel
theorem dX6_charter_1 : decode cX6_charter 1 = .ok (.iload_n 1, 1) := by decide +kernel
theorem dX6_charter_2 : decode cX6_charter 2 = .ok (.invokevirtual 116, 3) := by decide +kernel
theorem dX6_charter_5 : decode cX6_charter 5 = .ok (.ifCond .eq 24, 3) := by decide +kernel
theorem dX6_charter_8 : decode cX6_charter 8 = .ok (.iload_n 2, 1) := by decide +kernel
theorem dX6_charter_9 : decode cX6_charter 9 = .ok (.iconst 0, 1) := by decide +kernel
theorem dX6_charter_10 : decode cX6_charter 10 = .ok (.sipush 1000, 3) := by decide +kernel
theorem dX6_charter_13 : decode cX6_charter 13 = .ok (.invokestatic 87, 3) := by decide +kernel
theorem dX6_charter_16 : decode cX6_charter 16 = .ok (.ifCond .eq 13, 3) := by decide +kernel
theorem dX6_charter_19 : decode cX6_charter 19 = .ok (.iload_n 3, 1) := by decide +kernel
theorem dX6_charter_20 : decode cX6_charter 20 = .ok (.iconst 0, 1) := by decide +kernel
theorem dX6_charter_21 : decode cX6_charter 21 = .ok (.ldc 152, 2) := by decide +kernel
theorem dX6_charter_23 : decode cX6_charter 23 = .ok (.invokestatic 87, 3) := by decide +kernel
theorem dX6_charter_26 : decode cX6_charter 26 = .ok (.ifCond .ne 5, 3) := by decide +kernel
theorem dX6_charter_29 : decode cX6_charter 29 = .ok (.iconst (-1), 1) := by decide +kernel
theorem dX6_charter_30 : decode cX6_charter 30 = .ok (.ireturn, 1) := by decide +kernel
theorem dX6_charter_31 : decode cX6_charter 31 = .ok (.aload_n 0, 1) := by decide +kernel
theorem dX6_charter_32 : decode cX6_charter 32 = .ok (.getfield 56, 3) := by decide +kernel
theorem dX6_charter_35 : decode cX6_charter 35 = .ok (.iload_n 1, 1) := by decide +kernel
theorem dX6_charter_36 : decode cX6_charter 36 = .ok (.iload_n 2, 1) := by decide +kernel
theorem dX6_charter_37 : decode cX6_charter 37 = .ok (.iastore, 1) := by decide +kernel
theorem dX6_charter_38 : decode cX6_charter 38 = .ok (.aload_n 0, 1) := by decide +kernel
theorem dX6_charter_39 : decode cX6_charter 39 = .ok (.getfield 59, 3) := by decide +kernel
theorem dX6_charter_42 : decode cX6_charter 42 = .ok (.iload_n 1, 1) := by decide +kernel
theorem dX6_charter_43 : decode cX6_charter 43 = .ok (.iload_n 3, 1) := by decide +kernel
theorem dX6_charter_44 : decode cX6_charter 44 = .ok (.iastore, 1) := by decide +kernel
theorem dX6_charter_45 : decode cX6_charter 45 = .ok (.iconst 1, 1) := by decide +kernel
theorem dX6_charter_46 : decode cX6_charter 46 = .ok (.ireturn, 1) := by decide +kernel
set_option maxRecDepth 20000 in
theorem ggX6_freight_X6_isShip : GoodIn wsX6_freight wsX6_isShip := goodIn_r _ [9, 10, 11, 12, 8, 13, 23, 24, 25, 26, 27, 28, 29, 30, 31, 32, 33, 34, 35, 36, 37, 38, 39, 40, 41, 42, 43, 44, 45, 46, 47, 48, 49, 50, 51, 52, 53] (by decide +kernel) (by decide +kernel)
set_option maxRecDepth 20000 in
theorem gX6_freight_X6_isShip : GoodIn wsX6_freight (wsV RX6 116 RX6 yX6_isShip wsX6_isShip) := goodIn_app (goodIn_of _ (by decide +kernel)) ggX6_freight_X6_isShip
set_option maxRecDepth 20000 in
theorem ggX6_freight_X6_firstShip : GoodIn wsX6_freight wsX6_firstShip := goodIn_r _ [17, 10, 1, 18, 19, 20, 8, 21, 22, 23, 24, 25, 26, 27, 28, 29, 30, 31, 32, 33, 34, 35, 36, 37, 38, 39, 40, 41, 42, 43, 44, 45, 46, 47, 48, 49, 50, 51, 52, 53] (by decide +kernel) (by decide +kernel)
set_option maxRecDepth 20000 in
theorem gX6_freight_X6_firstShip : GoodIn wsX6_freight (wsV RX6 160 RX6 yX6_firstShip wsX6_firstShip) := goodIn_app (goodIn_of _ (by decide +kernel)) ggX6_freight_X6_firstShip
theorem dX6_freight_0 : decode cX6_freight 0 = .ok (.aload_n 0, 1) := by decide +kernel
theorem dX6_freight_1 : decode cX6_freight 1 = .ok (.iload_n 1, 1) := by decide +kernel
theorem dX6_freight_2 : decode cX6_freight 2 = .ok (.invokevirtual 116, 3) := by decide +kernel
theorem dX6_freight_5 : decode cX6_freight 5 = .ok (.ifCond .ne 5, 3) := by decide +kernel
theorem dX6_freight_8 : decode cX6_freight 8 = .ok (.iconst (-1), 1) := by decide +kernel
theorem dX6_freight_9 : decode cX6_freight 9 = .ok (.ireturn, 1) := by decide +kernel
theorem dX6_freight_10 : decode cX6_freight 10 = .ok (.aload_n 0, 1) := by decide +kernel
theorem dX6_freight_11 : decode cX6_freight 11 = .ok (.getfield 38, 3) := by decide +kernel
theorem dX6_freight_14 : decode cX6_freight 14 = .ok (.iload_n 1, 1) := by decide +kernel
theorem dX6_freight_15 : decode cX6_freight 15 = .ok (.iaload, 1) := by decide +kernel
theorem dX6_freight_16 : decode cX6_freight 16 = .ok (.bipush (-9), 2) := by decide +kernel
theorem dX6_freight_18 : decode cX6_freight 18 = .ok (.if_icmp .ne 6, 3) := by decide +kernel
theorem dX6_freight_21 : decode cX6_freight 21 = .ok (.bipush (-4), 2) := by decide +kernel
theorem dX6_freight_23 : decode cX6_freight 23 = .ok (.ireturn, 1) := by decide +kernel
theorem dX6_freight_24 : decode cX6_freight 24 = .ok (.aload_n 0, 1) := by decide +kernel
theorem dX6_freight_25 : decode cX6_freight 25 = .ok (.getfield 41, 3) := by decide +kernel
theorem dX6_freight_28 : decode cX6_freight 28 = .ok (.iload_n 1, 1) := by decide +kernel
theorem dX6_freight_29 : decode cX6_freight 29 = .ok (.iaload, 1) := by decide +kernel
theorem dX6_freight_30 : decode cX6_freight 30 = .ok (.aload_n 0, 1) := by decide +kernel
theorem dX6_freight_31 : decode cX6_freight 31 = .ok (.getfield 56, 3) := by decide +kernel
theorem dX6_freight_34 : decode cX6_freight 34 = .ok (.iload_n 1, 1) := by decide +kernel
theorem dX6_freight_35 : decode cX6_freight 35 = .ok (.iaload, 1) := by decide +kernel
theorem dX6_freight_36 : decode cX6_freight 36 = .ok (.imul, 1) := by decide +kernel
theorem dX6_freight_37 : decode cX6_freight 37 = .ok (.aload_n 0, 1) := by decide +kernel
theorem dX6_freight_38 : decode cX6_freight 38 = .ok (.invokevirtual 160, 3) := by decide +kernel
theorem dX6_freight_41 : decode cX6_freight 41 = .ok (.iload_n 1, 1) := by decide +kernel
theorem dX6_freight_42 : decode cX6_freight 42 = .ok (.if_icmp .ne 12, 3) := by decide +kernel
theorem dX6_freight_45 : decode cX6_freight 45 = .ok (.aload_n 0, 1) := by decide +kernel
theorem dX6_freight_46 : decode cX6_freight 46 = .ok (.getfield 59, 3) := by decide +kernel
theorem dX6_freight_49 : decode cX6_freight 49 = .ok (.iload_n 1, 1) := by decide +kernel
theorem dX6_freight_50 : decode cX6_freight 50 = .ok (.iaload, 1) := by decide +kernel
theorem dX6_freight_51 : decode cX6_freight 51 = .ok (.goto 4, 3) := by decide +kernel
theorem dX6_freight_54 : decode cX6_freight 54 = .ok (.iconst 0, 1) := by decide +kernel
theorem dX6_freight_55 : decode cX6_freight 55 = .ok (.iadd, 1) := by decide +kernel
theorem dX6_freight_56 : decode cX6_freight 56 = .ok (.ireturn, 1) := by decide +kernel
set_option maxRecDepth 20000 in
theorem ggX6_market_X6_in : GoodIn wsX6_market wsX6_in := goodIn_r _ [6] (by decide +kernel) (by decide +kernel)
set_option maxRecDepth 20000 in
theorem gX6_market_X6_in : GoodIn wsX6_market (va_wsS RX6 87 yX6_in wsX6_in) := goodIn_app (goodIn_of _ (by decide +kernel)) ggX6_market_X6_in
theorem dX6_market_0 : decode cX6_market 0 = .ok (.iload_n 1, 1) := by decide +kernel
theorem dX6_market_1 : decode cX6_market 1 = .ok (.iconst 1, 1) := by decide +kernel
theorem dX6_market_2 : decode cX6_market 2 = .ok (.sipush 10000, 3) := by decide +kernel
theorem dX6_market_5 : decode cX6_market 5 = .ok (.invokestatic 87, 3) := by decide +kernel
theorem dX6_market_8 : decode cX6_market 8 = .ok (.ifCond .eq 14, 3) := by decide +kernel
theorem dX6_market_11 : decode cX6_market 11 = .ok (.iload_n 2, 1) := by decide +kernel
theorem dX6_market_12 : decode cX6_market 12 = .ok (.iconst 0, 1) := by decide +kernel
theorem dX6_market_13 : decode cX6_market 13 = .ok (.sipush 1000, 3) := by decide +kernel
theorem dX6_market_16 : decode cX6_market 16 = .ok (.invokestatic 87, 3) := by decide +kernel
theorem dX6_market_19 : decode cX6_market 19 = .ok (.ifCond .ne 5, 3) := by decide +kernel
theorem dX6_market_22 : decode cX6_market 22 = .ok (.iconst (-1), 1) := by decide +kernel
theorem dX6_market_23 : decode cX6_market 23 = .ok (.ireturn, 1) := by decide +kernel
theorem dX6_market_24 : decode cX6_market 24 = .ok (.aload_n 0, 1) := by decide +kernel
theorem dX6_market_25 : decode cX6_market 25 = .ok (.iload_n 1, 1) := by decide +kernel
theorem dX6_market_26 : decode cX6_market 26 = .ok (.putfield 77, 3) := by decide +kernel
theorem dX6_market_29 : decode cX6_market 29 = .ok (.aload_n 0, 1) := by decide +kernel
theorem dX6_market_30 : decode cX6_market 30 = .ok (.iload_n 2, 1) := by decide +kernel
theorem dX6_market_31 : decode cX6_market 31 = .ok (.putfield 81, 3) := by decide +kernel
theorem dX6_market_34 : decode cX6_market 34 = .ok (.iconst 1, 1) := by decide +kernel
theorem dX6_market_35 : decode cX6_market 35 = .ok (.ireturn, 1) := by decide +kernel
set_option maxRecDepth 20000 in
theorem ggX6_priceFor_X6_entryOf : GoodIn wsX6_priceFor wsX6_entryOf := goodIn_r _ [10, 2, 11, 12, 13, 14, 15, 16, 17, 18, 19, 20, 21, 22, 23, 24, 25, 26, 27, 28, 29, 30, 31, 32, 33, 34, 35, 36, 37, 38, 39, 40, 41, 42] (by decide +kernel) (by decide +kernel)
set_option maxRecDepth 20000 in
theorem gX6_priceFor_X6_entryOf : GoodIn wsX6_priceFor (wsV RX6 122 RX6 yX6_entryOf wsX6_entryOf) := goodIn_app (goodIn_of _ (by decide +kernel)) ggX6_priceFor_X6_entryOf
theorem dX6_priceFor_0 : decode cX6_priceFor 0 = .ok (.iconst 0, 1) := by decide +kernel
theorem dX6_priceFor_1 : decode cX6_priceFor 1 = .ok (.istore_n 2, 1) := by decide +kernel
theorem dX6_priceFor_2 : decode cX6_priceFor 2 = .ok (.iconst 0, 1) := by decide +kernel
theorem dX6_priceFor_3 : decode cX6_priceFor 3 = .ok (.istore_n 3, 1) := by decide +kernel
theorem dX6_priceFor_4 : decode cX6_priceFor 4 = .ok (.iload_n 3, 1) := by decide +kernel
theorem dX6_priceFor_5 : decode cX6_priceFor 5 = .ok (.aload_n 0, 1) := by decide +kernel
theorem dX6_priceFor_6 : decode cX6_priceFor 6 = .ok (.getfield 110, 3) := by decide +kernel
theorem dX6_priceFor_9 : decode cX6_priceFor 9 = .ok (.if_icmp .ge 76, 3) := by decide +kernel
theorem dX6_priceFor_12 : decode cX6_priceFor 12 = .ok (.aload_n 0, 1) := by decide +kernel
theorem dX6_priceFor_13 : decode cX6_priceFor 13 = .ok (.getfield 38, 3) := by decide +kernel
theorem dX6_priceFor_16 : decode cX6_priceFor 16 = .ok (.iload_n 3, 1) := by decide +kernel
theorem dX6_priceFor_17 : decode cX6_priceFor 17 = .ok (.iaload, 1) := by decide +kernel
theorem dX6_priceFor_18 : decode cX6_priceFor 18 = .ok (.bipush (-9), 2) := by decide +kernel
theorem dX6_priceFor_20 : decode cX6_priceFor 20 = .ok (.if_icmp .eq 38, 3) := by decide +kernel
theorem dX6_priceFor_23 : decode cX6_priceFor 23 = .ok (.aload_n 0, 1) := by decide +kernel
theorem dX6_priceFor_24 : decode cX6_priceFor 24 = .ok (.iload_n 3, 1) := by decide +kernel
theorem dX6_priceFor_25 : decode cX6_priceFor 25 = .ok (.invokevirtual 122, 3) := by decide +kernel
theorem dX6_priceFor_28 : decode cX6_priceFor 28 = .ok (.aload_n 0, 1) := by decide +kernel
theorem dX6_priceFor_29 : decode cX6_priceFor 29 = .ok (.iload_n 1, 1) := by decide +kernel
theorem dX6_priceFor_30 : decode cX6_priceFor 30 = .ok (.invokevirtual 122, 3) := by decide +kernel
theorem dX6_priceFor_33 : decode cX6_priceFor 33 = .ok (.if_icmp .lt 21, 3) := by decide +kernel
theorem dX6_priceFor_36 : decode cX6_priceFor 36 = .ok (.aload_n 0, 1) := by decide +kernel
theorem dX6_priceFor_37 : decode cX6_priceFor 37 = .ok (.iload_n 3, 1) := by decide +kernel
theorem dX6_priceFor_38 : decode cX6_priceFor 38 = .ok (.invokevirtual 122, 3) := by decide +kernel
theorem dX6_priceFor_41 : decode cX6_priceFor 41 = .ok (.aload_n 0, 1) := by decide +kernel
theorem dX6_priceFor_42 : decode cX6_priceFor 42 = .ok (.iload_n 1, 1) := by decide +kernel
theorem dX6_priceFor_43 : decode cX6_priceFor 43 = .ok (.invokevirtual 122, 3) := by decide +kernel
theorem dX6_priceFor_46 : decode cX6_priceFor 46 = .ok (.if_icmp .ne 12, 3) := by decide +kernel
theorem dX6_priceFor_49 : decode cX6_priceFor 49 = .ok (.iload_n 3, 1) := by decide +kernel
theorem dX6_priceFor_50 : decode cX6_priceFor 50 = .ok (.iload_n 1, 1) := by decide +kernel
theorem dX6_priceFor_51 : decode cX6_priceFor 51 = .ok (.if_icmp .ge 7, 3) := by decide +kernel
theorem dX6_priceFor_54 : decode cX6_priceFor 54 = .ok (.iconst 1, 1) := by decide +kernel
theorem dX6_priceFor_55 : decode cX6_priceFor 55 = .ok (.goto 4, 3) := by decide +kernel
theorem dX6_priceFor_58 : decode cX6_priceFor 58 = .ok (.iconst 0, 1) := by decide +kernel
theorem dX6_priceFor_59 : decode cX6_priceFor 59 = .ok (.istore 4, 2) := by decide +kernel
theorem dX6_priceFor_61 : decode cX6_priceFor 61 = .ok (.iload_n 2, 1) := by decide +kernel
theorem dX6_priceFor_62 : decode cX6_priceFor 62 = .ok (.iload 4, 2) := by decide +kernel
theorem dX6_priceFor_64 : decode cX6_priceFor 64 = .ok (.ifCond .eq 12, 3) := by decide +kernel
theorem dX6_priceFor_67 : decode cX6_priceFor 67 = .ok (.aload_n 0, 1) := by decide +kernel
theorem dX6_priceFor_68 : decode cX6_priceFor 68 = .ok (.getfield 41, 3) := by decide +kernel
theorem dX6_priceFor_71 : decode cX6_priceFor 71 = .ok (.iload_n 3, 1) := by decide +kernel
theorem dX6_priceFor_72 : decode cX6_priceFor 72 = .ok (.iaload, 1) := by decide +kernel
theorem dX6_priceFor_73 : decode cX6_priceFor 73 = .ok (.goto 4, 3) := by decide +kernel
theorem dX6_priceFor_76 : decode cX6_priceFor 76 = .ok (.iconst 0, 1) := by decide +kernel
theorem dX6_priceFor_77 : decode cX6_priceFor 77 = .ok (.iadd, 1) := by decide +kernel
theorem dX6_priceFor_78 : decode cX6_priceFor 78 = .ok (.istore_n 2, 1) := by decide +kernel
theorem dX6_priceFor_79 : decode cX6_priceFor 79 = .ok (.iinc 3 1, 3) := by decide +kernel
theorem dX6_priceFor_82 : decode cX6_priceFor 82 = .ok (.goto (-78), 3) := by decide +kernel
theorem dX6_priceFor_85 : decode cX6_priceFor 85 = .ok (.aload_n 0, 1) := by decide +kernel
theorem dX6_priceFor_86 : decode cX6_priceFor 86 = .ok (.getfield 77, 3) := by decide +kernel
theorem dX6_priceFor_89 : decode cX6_priceFor 89 = .ok (.aload_n 0, 1) := by decide +kernel
theorem dX6_priceFor_90 : decode cX6_priceFor 90 = .ok (.getfield 81, 3) := by decide +kernel
theorem dX6_priceFor_93 : decode cX6_priceFor 93 = .ok (.iload_n 2, 1) := by decide +kernel
end
section
theorem dX6_priceFor_94 : decode cX6_priceFor 94 = .ok (.bipush 99, 2) := by decide +kernel
theorem dX6_priceFor_96 : decode cX6_priceFor 96 = .ok (.iadd, 1) := by decide +kernel
theorem dX6_priceFor_97 : decode cX6_priceFor 97 = .ok (.bipush 100, 2) := by decide +kernel
theorem dX6_priceFor_99 : decode cX6_priceFor 99 = .ok (.idiv, 1) := by decide +kernel
theorem dX6_priceFor_100 : decode cX6_priceFor 100 = .ok (.imul, 1) := by decide +kernel
theorem dX6_priceFor_101 : decode cX6_priceFor 101 = .ok (.isub, 1) := by decide +kernel
theorem dX6_priceFor_102 : decode cX6_priceFor 102 = .ok (.istore_n 3, 1) := by decide +kernel
theorem dX6_priceFor_103 : decode cX6_priceFor 103 = .ok (.iload_n 3, 1) := by decide +kernel
theorem dX6_priceFor_104 : decode cX6_priceFor 104 = .ok (.iconst 1, 1) := by decide +kernel
theorem dX6_priceFor_105 : decode cX6_priceFor 105 = .ok (.if_icmp .ge 7, 3) := by decide +kernel
theorem dX6_priceFor_108 : decode cX6_priceFor 108 = .ok (.iconst 1, 1) := by decide +kernel
theorem dX6_priceFor_109 : decode cX6_priceFor 109 = .ok (.goto 4, 3) := by decide +kernel
theorem dX6_priceFor_112 : decode cX6_priceFor 112 = .ok (.iload_n 3, 1) := by decide +kernel
theorem dX6_priceFor_113 : decode cX6_priceFor 113 = .ok (.ireturn, 1) := by decide +kernel
set_option maxRecDepth 20000 in
theorem ggX6_sale_X6_isShip : GoodIn wsX6_sale wsX6_isShip := goodIn_r _ [8, 9, 10, 11, 7, 12, 24, 25, 26, 27, 28, 29, 30, 31, 32, 33, 34, 35, 36, 37, 38, 39, 40, 41, 42, 43, 44, 45, 46, 47, 48, 49, 50, 51, 52, 53, 54] (by decide +kernel) (by decide +kernel)
set_option maxRecDepth 20000 in
theorem gX6_sale_X6_isShip : GoodIn wsX6_sale (wsV RX6 116 RX6 yX6_isShip wsX6_isShip) := goodIn_app (goodIn_of _ (by decide +kernel)) ggX6_sale_X6_isShip
set_option maxRecDepth 20000 in
theorem ggX6_sale_X6_priceFor : GoodIn wsX6_sale wsX6_priceFor := goodIn_r _ [16, 9, 1, 2, 17, 18, 19, 20, 21, 7, 22, 23, 24, 25, 26, 27, 28, 29, 30, 31, 32, 33, 34, 35, 36, 37, 38, 39, 40, 41, 42, 43, 44, 45, 46, 47, 48, 49, 50, 51, 52, 53, 54] (by decide +kernel) (by decide +kernel)
set_option maxRecDepth 20000 in
theorem gX6_sale_X6_priceFor : GoodIn wsX6_sale (wsV RX6 181 RX6 yX6_priceFor wsX6_priceFor) := goodIn_app (goodIn_of _ (by decide +kernel)) ggX6_sale_X6_priceFor
theorem dX6_sale_0 : decode cX6_sale 0 = .ok (.aload_n 0, 1) := by decide +kernel
theorem dX6_sale_1 : decode cX6_sale 1 = .ok (.iload_n 1, 1) := by decide +kernel
theorem dX6_sale_2 : decode cX6_sale 2 = .ok (.invokevirtual 116, 3) := by decide +kernel
theorem dX6_sale_5 : decode cX6_sale 5 = .ok (.ifCond .ne 5, 3) := by decide +kernel
theorem dX6_sale_8 : decode cX6_sale 8 = .ok (.iconst (-1), 1) := by decide +kernel
theorem dX6_sale_9 : decode cX6_sale 9 = .ok (.ireturn, 1) := by decide +kernel
theorem dX6_sale_10 : decode cX6_sale 10 = .ok (.aload_n 0, 1) := by decide +kernel
theorem dX6_sale_11 : decode cX6_sale 11 = .ok (.getfield 38, 3) := by decide +kernel
theorem dX6_sale_14 : decode cX6_sale 14 = .ok (.iload_n 1, 1) := by decide +kernel
theorem dX6_sale_15 : decode cX6_sale 15 = .ok (.iaload, 1) := by decide +kernel
theorem dX6_sale_16 : decode cX6_sale 16 = .ok (.bipush (-9), 2) := by decide +kernel
theorem dX6_sale_18 : decode cX6_sale 18 = .ok (.if_icmp .ne 6, 3) := by decide +kernel
theorem dX6_sale_21 : decode cX6_sale 21 = .ok (.bipush (-4), 2) := by decide +kernel
theorem dX6_sale_23 : decode cX6_sale 23 = .ok (.ireturn, 1) := by decide +kernel
theorem dX6_sale_24 : decode cX6_sale 24 = .ok (.aload_n 0, 1) := by decide +kernel
theorem dX6_sale_25 : decode cX6_sale 25 = .ok (.iload_n 1, 1) := by decide +kernel
theorem dX6_sale_26 : decode cX6_sale 26 = .ok (.invokevirtual 181, 3) := by decide +kernel
theorem dX6_sale_29 : decode cX6_sale 29 = .ok (.istore_n 2, 1) := by decide +kernel
theorem dX6_sale_30 : decode cX6_sale 30 = .ok (.aload_n 0, 1) := by decide +kernel
theorem dX6_sale_31 : decode cX6_sale 31 = .ok (.iload_n 2, 1) := by decide +kernel
theorem dX6_sale_32 : decode cX6_sale 32 = .ok (.i2l, 1) := by decide +kernel
theorem dX6_sale_33 : decode cX6_sale 33 = .ok (.aload_n 0, 1) := by decide +kernel
theorem dX6_sale_34 : decode cX6_sale 34 = .ok (.getfield 41, 3) := by decide +kernel
theorem dX6_sale_37 : decode cX6_sale 37 = .ok (.iload_n 1, 1) := by decide +kernel
theorem dX6_sale_38 : decode cX6_sale 38 = .ok (.iaload, 1) := by decide +kernel
theorem dX6_sale_39 : decode cX6_sale 39 = .ok (.i2l, 1) := by decide +kernel
theorem dX6_sale_40 : decode cX6_sale 40 = .ok (.lmul, 1) := by decide +kernel
theorem dX6_sale_41 : decode cX6_sale 41 = .ok (.putfield 184, 3) := by decide +kernel
theorem dX6_sale_44 : decode cX6_sale 44 = .ok (.iload_n 2, 1) := by decide +kernel
theorem dX6_sale_45 : decode cX6_sale 45 = .ok (.ireturn, 1) := by decide +kernel
set_option maxRecDepth 20000 in
theorem ggX6_meanPrice_X6_priceFor : GoodIn wsX6_meanPrice wsX6_priceFor := goodIn_r _ [8, 1, 2, 3, 9, 10, 11, 12, 13, 7, 14, 15, 22, 23, 24, 25, 26, 27, 28, 29, 30, 31, 32, 33, 34, 35, 36, 37, 38, 39, 40, 41, 42, 43, 44, 45, 46, 47, 48, 49, 50, 51, 52] (by decide +kernel) (by decide +kernel)
set_option maxRecDepth 20000 in
theorem gX6_meanPrice_X6_priceFor : GoodIn wsX6_meanPrice (wsV RX6 181 RX6 yX6_priceFor wsX6_priceFor) := goodIn_app (goodIn_of _ (by decide +kernel)) ggX6_meanPrice_X6_priceFor
set_option maxRecDepth 20000 in
theorem ggX6_meanPrice_X6_meets : GoodIn wsX6_meanPrice wsX6_meets := goodIn_r _ [19, 20, 21, 22, 23, 24, 25, 26, 27, 28, 29, 30, 31, 32, 33, 34, 35, 36, 37, 38, 39, 40, 41, 42, 43, 44, 45, 46, 47, 48, 49, 50, 51, 52] (by decide +kernel) (by decide +kernel)
set_option maxRecDepth 20000 in
theorem gX6_meanPrice_X6_meets : GoodIn wsX6_meanPrice (wsV RX6 98 RX6 yX6_meets wsX6_meets) := goodIn_app (goodIn_of _ (by decide +kernel)) ggX6_meanPrice_X6_meets
theorem dX6_meanPrice_0 : decode cX6_meanPrice 0 = .ok (.lconst 0, 1) := by decide +kernel
theorem dX6_meanPrice_1 : decode cX6_meanPrice 1 = .ok (.lstore_n 1, 1) := by decide +kernel
theorem dX6_meanPrice_2 : decode cX6_meanPrice 2 = .ok (.lconst 0, 1) := by decide +kernel
theorem dX6_meanPrice_3 : decode cX6_meanPrice 3 = .ok (.lstore_n 3, 1) := by decide +kernel
theorem dX6_meanPrice_4 : decode cX6_meanPrice 4 = .ok (.iconst 0, 1) := by decide +kernel
theorem dX6_meanPrice_5 : decode cX6_meanPrice 5 = .ok (.istore 5, 2) := by decide +kernel
theorem dX6_meanPrice_7 : decode cX6_meanPrice 7 = .ok (.iload 5, 2) := by decide +kernel
theorem dX6_meanPrice_9 : decode cX6_meanPrice 9 = .ok (.aload_n 0, 1) := by decide +kernel
theorem dX6_meanPrice_10 : decode cX6_meanPrice 10 = .ok (.getfield 110, 3) := by decide +kernel
theorem dX6_meanPrice_13 : decode cX6_meanPrice 13 = .ok (.if_icmp .ge 51, 3) := by decide +kernel
theorem dX6_meanPrice_16 : decode cX6_meanPrice 16 = .ok (.aload_n 0, 1) := by decide +kernel
theorem dX6_meanPrice_17 : decode cX6_meanPrice 17 = .ok (.getfield 38, 3) := by decide +kernel
theorem dX6_meanPrice_20 : decode cX6_meanPrice 20 = .ok (.iload 5, 2) := by decide +kernel
theorem dX6_meanPrice_22 : decode cX6_meanPrice 22 = .ok (.iaload, 1) := by decide +kernel
theorem dX6_meanPrice_23 : decode cX6_meanPrice 23 = .ok (.bipush (-9), 2) := by decide +kernel
theorem dX6_meanPrice_25 : decode cX6_meanPrice 25 = .ok (.if_icmp .eq 33, 3) := by decide +kernel
theorem dX6_meanPrice_28 : decode cX6_meanPrice 28 = .ok (.lload_n 1, 1) := by decide +kernel
theorem dX6_meanPrice_29 : decode cX6_meanPrice 29 = .ok (.aload_n 0, 1) := by decide +kernel
theorem dX6_meanPrice_30 : decode cX6_meanPrice 30 = .ok (.iload 5, 2) := by decide +kernel
theorem dX6_meanPrice_32 : decode cX6_meanPrice 32 = .ok (.invokevirtual 181, 3) := by decide +kernel
theorem dX6_meanPrice_35 : decode cX6_meanPrice 35 = .ok (.i2l, 1) := by decide +kernel
theorem dX6_meanPrice_36 : decode cX6_meanPrice 36 = .ok (.aload_n 0, 1) := by decide +kernel
theorem dX6_meanPrice_37 : decode cX6_meanPrice 37 = .ok (.getfield 41, 3) := by decide +kernel
theorem dX6_meanPrice_40 : decode cX6_meanPrice 40 = .ok (.iload 5, 2) := by decide +kernel
theorem dX6_meanPrice_42 : decode cX6_meanPrice 42 = .ok (.iaload, 1) := by decide +kernel
theorem dX6_meanPrice_43 : decode cX6_meanPrice 43 = .ok (.i2l, 1) := by decide +kernel
theorem dX6_meanPrice_44 : decode cX6_meanPrice 44 = .ok (.lmul, 1) := by decide +kernel
theorem dX6_meanPrice_45 : decode cX6_meanPrice 45 = .ok (.ladd, 1) := by decide +kernel
theorem dX6_meanPrice_46 : decode cX6_meanPrice 46 = .ok (.lstore_n 1, 1) := by decide +kernel
theorem dX6_meanPrice_47 : decode cX6_meanPrice 47 = .ok (.lload_n 3, 1) := by decide +kernel
theorem dX6_meanPrice_48 : decode cX6_meanPrice 48 = .ok (.aload_n 0, 1) := by decide +kernel
theorem dX6_meanPrice_49 : decode cX6_meanPrice 49 = .ok (.getfield 41, 3) := by decide +kernel
theorem dX6_meanPrice_52 : decode cX6_meanPrice 52 = .ok (.iload 5, 2) := by decide +kernel
theorem dX6_meanPrice_54 : decode cX6_meanPrice 54 = .ok (.iaload, 1) := by decide +kernel
theorem dX6_meanPrice_55 : decode cX6_meanPrice 55 = .ok (.i2l, 1) := by decide +kernel
theorem dX6_meanPrice_56 : decode cX6_meanPrice 56 = .ok (.ladd, 1) := by decide +kernel
theorem dX6_meanPrice_57 : decode cX6_meanPrice 57 = .ok (.lstore_n 3, 1) := by decide +kernel
theorem dX6_meanPrice_58 : decode cX6_meanPrice 58 = .ok (.iinc 5 1, 3) := by decide +kernel
theorem dX6_meanPrice_61 : decode cX6_meanPrice 61 = .ok (.goto (-54), 3) := by decide +kernel
theorem dX6_meanPrice_64 : decode cX6_meanPrice 64 = .ok (.lload_n 3, 1) := by decide +kernel
theorem dX6_meanPrice_65 : decode cX6_meanPrice 65 = .ok (.lconst 0, 1) := by decide +kernel
theorem dX6_meanPrice_66 : decode cX6_meanPrice 66 = .ok (.lcmp, 1) := by decide +kernel
theorem dX6_meanPrice_67 : decode cX6_meanPrice 67 = .ok (.ifCond .ne 11, 3) := by decide +kernel
theorem dX6_meanPrice_70 : decode cX6_meanPrice 70 = .ok (.aload_n 0, 1) := by decide +kernel
theorem dX6_meanPrice_71 : decode cX6_meanPrice 71 = .ok (.iconst 4, 1) := by decide +kernel
theorem dX6_meanPrice_72 : decode cX6_meanPrice 72 = .ok (.invokevirtual 98, 3) := by decide +kernel
theorem dX6_meanPrice_75 : decode cX6_meanPrice 75 = .ok (.goto 7, 3) := by decide +kernel
theorem dX6_meanPrice_78 : decode cX6_meanPrice 78 = .ok (.lload_n 1, 1) := by decide +kernel
theorem dX6_meanPrice_79 : decode cX6_meanPrice 79 = .ok (.lload_n 3, 1) := by decide +kernel
theorem dX6_meanPrice_80 : decode cX6_meanPrice 80 = .ok (.ldiv, 1) := by decide +kernel
theorem dX6_meanPrice_81 : decode cX6_meanPrice 81 = .ok (.l2i, 1) := by decide +kernel
theorem dX6_meanPrice_82 : decode cX6_meanPrice 82 = .ok (.ireturn, 1) := by decide +kernel
theorem dX6_asked_0 : decode cX6_asked 0 = .ok (.aload_n 0, 1) := by decide +kernel
theorem dX6_asked_1 : decode cX6_asked 1 = .ok (.getfield 184, 3) := by decide +kernel
theorem dX6_asked_4 : decode cX6_asked 4 = .ok (.lreturn, 1) := by decide +kernel
set_option maxRecDepth 20000 in
theorem ggX6_tellsCount_X6_atHome : GoodIn wsX6_tellsCount wsX6_atHome := goodIn_r _ [9, 2, 10, 11, 12, 13, 14, 15, 16, 17, 18, 19, 20, 21, 22, 23, 24, 25, 26, 27, 28, 29, 30, 31, 32, 33, 34, 35, 36, 37, 38, 39, 40, 41] (by decide +kernel) (by decide +kernel)
set_option maxRecDepth 20000 in
theorem gX6_tellsCount_X6_atHome : GoodIn wsX6_tellsCount (wsV RX6 153 RX6 yX6_atHome wsX6_atHome) := goodIn_app (goodIn_of _ (by decide +kernel)) ggX6_tellsCount_X6_atHome
theorem dX6_tellsCount_0 : decode cX6_tellsCount 0 = .ok (.iconst 0, 1) := by decide +kernel
theorem dX6_tellsCount_1 : decode cX6_tellsCount 1 = .ok (.istore_n 2, 1) := by decide +kernel
theorem dX6_tellsCount_2 : decode cX6_tellsCount 2 = .ok (.iconst 0, 1) := by decide +kernel
theorem dX6_tellsCount_3 : decode cX6_tellsCount 3 = .ok (.istore_n 3, 1) := by decide +kernel
theorem dX6_tellsCount_4 : decode cX6_tellsCount 4 = .ok (.iload_n 3, 1) := by decide +kernel
theorem dX6_tellsCount_5 : decode cX6_tellsCount 5 = .ok (.bipush 12, 2) := by decide +kernel
theorem dX6_tellsCount_7 : decode cX6_tellsCount 7 = .ok (.if_icmp .ge 26, 3) := by decide +kernel
theorem dX6_tellsCount_10 : decode cX6_tellsCount 10 = .ok (.iload_n 2, 1) := by decide +kernel
theorem dX6_tellsCount_11 : decode cX6_tellsCount 11 = .ok (.aload_n 0, 1) := by decide +kernel
theorem dX6_tellsCount_12 : decode cX6_tellsCount 12 = .ok (.getfield 17, 3) := by decide +kernel
theorem dX6_tellsCount_15 : decode cX6_tellsCount 15 = .ok (.iload_n 3, 1) := by decide +kernel
theorem dX6_tellsCount_16 : decode cX6_tellsCount 16 = .ok (.baload, 1) := by decide +kernel
theorem dX6_tellsCount_17 : decode cX6_tellsCount 17 = .ok (.ifCond .eq 7, 3) := by decide +kernel
theorem dX6_tellsCount_20 : decode cX6_tellsCount 20 = .ok (.iconst 1, 1) := by decide +kernel
theorem dX6_tellsCount_21 : decode cX6_tellsCount 21 = .ok (.goto 4, 3) := by decide +kernel
theorem dX6_tellsCount_24 : decode cX6_tellsCount 24 = .ok (.iconst 0, 1) := by decide +kernel
theorem dX6_tellsCount_25 : decode cX6_tellsCount 25 = .ok (.iadd, 1) := by decide +kernel
theorem dX6_tellsCount_26 : decode cX6_tellsCount 26 = .ok (.istore_n 2, 1) := by decide +kernel
theorem dX6_tellsCount_27 : decode cX6_tellsCount 27 = .ok (.iinc 3 1, 3) := by decide +kernel
theorem dX6_tellsCount_30 : decode cX6_tellsCount 30 = .ok (.goto (-26), 3) := by decide +kernel
theorem dX6_tellsCount_33 : decode cX6_tellsCount 33 = .ok (.iload_n 1, 1) := by decide +kernel
theorem dX6_tellsCount_34 : decode cX6_tellsCount 34 = .ok (.ifCond .ne 10, 3) := by decide +kernel
theorem dX6_tellsCount_37 : decode cX6_tellsCount 37 = .ok (.aload_n 0, 1) := by decide +kernel
theorem dX6_tellsCount_38 : decode cX6_tellsCount 38 = .ok (.getfield 110, 3) := by decide +kernel
theorem dX6_tellsCount_41 : decode cX6_tellsCount 41 = .ok (.goto 40, 3) := by decide +kernel
theorem dX6_tellsCount_44 : decode cX6_tellsCount 44 = .ok (.iload_n 1, 1) := by decide +kernel
theorem dX6_tellsCount_45 : decode cX6_tellsCount 45 = .ok (.iconst 1, 1) := by decide +kernel
theorem dX6_tellsCount_46 : decode cX6_tellsCount 46 = .ok (.if_icmp .ne 10, 3) := by decide +kernel
theorem dX6_tellsCount_49 : decode cX6_tellsCount 49 = .ok (.aload_n 0, 1) := by decide +kernel
theorem dX6_tellsCount_50 : decode cX6_tellsCount 50 = .ok (.getfield 113, 3) := by decide +kernel
theorem dX6_tellsCount_53 : decode cX6_tellsCount 53 = .ok (.goto 28, 3) := by decide +kernel
theorem dX6_tellsCount_56 : decode cX6_tellsCount 56 = .ok (.iload_n 1, 1) := by decide +kernel
theorem dX6_tellsCount_57 : decode cX6_tellsCount 57 = .ok (.iconst 2, 1) := by decide +kernel
theorem dX6_tellsCount_58 : decode cX6_tellsCount 58 = .ok (.if_icmp .ne 7, 3) := by decide +kernel
theorem dX6_tellsCount_61 : decode cX6_tellsCount 61 = .ok (.iload_n 2, 1) := by decide +kernel
theorem dX6_tellsCount_62 : decode cX6_tellsCount 62 = .ok (.goto 19, 3) := by decide +kernel
theorem dX6_tellsCount_65 : decode cX6_tellsCount 65 = .ok (.iload_n 1, 1) := by decide +kernel
theorem dX6_tellsCount_66 : decode cX6_tellsCount 66 = .ok (.iconst 3, 1) := by decide +kernel
theorem dX6_tellsCount_67 : decode cX6_tellsCount 67 = .ok (.if_icmp .ne 10, 3) := by decide +kernel
theorem dX6_tellsCount_70 : decode cX6_tellsCount 70 = .ok (.aload_n 0, 1) := by decide +kernel
theorem dX6_tellsCount_71 : decode cX6_tellsCount 71 = .ok (.getfield 168, 3) := by decide +kernel
theorem dX6_tellsCount_74 : decode cX6_tellsCount 74 = .ok (.goto 7, 3) := by decide +kernel
theorem dX6_tellsCount_77 : decode cX6_tellsCount 77 = .ok (.aload_n 0, 1) := by decide +kernel
theorem dX6_tellsCount_78 : decode cX6_tellsCount 78 = .ok (.invokevirtual 153, 3) := by decide +kernel
theorem dX6_tellsCount_81 : decode cX6_tellsCount 81 = .ok (.ireturn, 1) := by decide +kernel
set_option maxRecDepth 20000 in
theorem ggX6_count_X6_in : GoodIn wsX6_count wsX6_in := goodIn_r _ [4] (by decide +kernel) (by decide +kernel)
set_option maxRecDepth 20000 in
theorem gX6_count_X6_in : GoodIn wsX6_count (va_wsS RX6 87 yX6_in wsX6_in) := goodIn_app (goodIn_of _ (by decide +kernel)) ggX6_count_X6_in
set_option maxRecDepth 20000 in
theorem ggX6_count_X6_tellsCount : GoodIn wsX6_count wsX6_tellsCount := goodIn_r _ [8, 9, 10, 11, 12, 13, 14, 15, 3, 16, 17, 18, 19, 20, 21, 22, 23, 24, 25, 26, 27, 28, 29, 30, 31, 32, 33, 34, 35, 36, 37, 38, 39, 40, 41, 42, 43, 44, 45, 46, 47, 48] (by decide +kernel) (by decide +kernel)
set_option maxRecDepth 20000 in
theorem gX6_count_X6_tellsCount : GoodIn wsX6_count (wsV RX6 188 RX6 yX6_tellsCount wsX6_tellsCount) := goodIn_app (goodIn_of _ (by decide +kernel)) ggX6_count_X6_tellsCount
theorem dX6_count_0 : decode cX6_count 0 = .ok (.iload_n 1, 1) := by decide +kernel
theorem dX6_count_1 : decode cX6_count 1 = .ok (.iconst 0, 1) := by decide +kernel
theorem dX6_count_2 : decode cX6_count 2 = .ok (.iconst 4, 1) := by decide +kernel
theorem dX6_count_3 : decode cX6_count 3 = .ok (.invokestatic 87, 3) := by decide +kernel
theorem dX6_count_6 : decode cX6_count 6 = .ok (.ifCond .eq 11, 3) := by decide +kernel
theorem dX6_count_9 : decode cX6_count 9 = .ok (.aload_n 0, 1) := by decide +kernel
theorem dX6_count_10 : decode cX6_count 10 = .ok (.iload_n 1, 1) := by decide +kernel
theorem dX6_count_11 : decode cX6_count 11 = .ok (.invokevirtual 188, 3) := by decide +kernel
theorem dX6_count_14 : decode cX6_count 14 = .ok (.goto 4, 3) := by decide +kernel
theorem dX6_count_17 : decode cX6_count 17 = .ok (.iconst (-1), 1) := by decide +kernel
theorem dX6_count_18 : decode cX6_count 18 = .ok (.ireturn, 1) := by decide +kernel
theorem dX6_finding_0 : decode cX6_finding 0 = .ok (.aload_n 0, 1) := by decide +kernel
theorem dX6_finding_1 : decode cX6_finding 1 = .ok (.getfield 84, 3) := by decide +kernel
theorem dX6_finding_4 : decode cX6_finding 4 = .ok (.ireturn, 1) := by decide +kernel
set_option maxRecDepth 20000 in
theorem ggX6_findings_X6_in : GoodIn wsX6_findings wsX6_in := goodIn_r _ [5] (by decide +kernel) (by decide +kernel)
set_option maxRecDepth 20000 in
theorem gX6_findings_X6_in : GoodIn wsX6_findings (va_wsS RX6 87 yX6_in wsX6_in) := goodIn_app (goodIn_of _ (by decide +kernel)) ggX6_findings_X6_in
theorem dX6_findings_0 : decode cX6_findings 0 = .ok (.iload_n 1, 1) := by decide +kernel
theorem dX6_findings_1 : decode cX6_findings 1 = .ok (.iconst 1, 1) := by decide +kernel
theorem dX6_findings_2 : decode cX6_findings 2 = .ok (.iconst 5, 1) := by decide +kernel
theorem dX6_findings_3 : decode cX6_findings 3 = .ok (.invokestatic 87, 3) := by decide +kernel
theorem dX6_findings_6 : decode cX6_findings 6 = .ok (.ifCond .eq 12, 3) := by decide +kernel
theorem dX6_findings_9 : decode cX6_findings 9 = .ok (.aload_n 0, 1) := by decide +kernel
theorem dX6_findings_10 : decode cX6_findings 10 = .ok (.getfield 7, 3) := by decide +kernel
theorem dX6_findings_13 : decode cX6_findings 13 = .ok (.iload_n 1, 1) := by decide +kernel
theorem dX6_findings_14 : decode cX6_findings 14 = .ok (.iaload, 1) := by decide +kernel
theorem dX6_findings_15 : decode cX6_findings 15 = .ok (.goto 4, 3) := by decide +kernel
theorem dX6_findings_18 : decode cX6_findings 18 = .ok (.iconst (-1), 1) := by decide +kernel
theorem dX6_findings_19 : decode cX6_findings 19 = .ok (.ireturn, 1) := by decide +kernel
set_option maxRecDepth 20000 in
theorem ggX6_digest_X6_tellsCount : GoodIn wsX6_digest wsX6_tellsCount := goodIn_r _ [10, 4, 3, 11, 12, 13, 14, 15, 9, 16, 17, 32, 33, 34, 35, 36, 37, 38, 39, 40, 41, 42, 43, 44, 45, 46, 47, 48, 49, 50, 51, 52, 53, 54, 55, 56, 57, 58, 59, 60, 61, 62] (by decide +kernel) (by decide +kernel)
set_option maxRecDepth 20000 in
theorem gX6_digest_X6_tellsCount : GoodIn wsX6_digest (wsV RX6 188 RX6 yX6_tellsCount wsX6_tellsCount) := goodIn_app (goodIn_of _ (by decide +kernel)) ggX6_digest_X6_tellsCount
set_option maxRecDepth 20000 in
theorem ggX6_digest_X6_tells : GoodIn wsX6_digest wsX6_tells := goodIn_r _ [21, 22, 23, 24, 25, 17, 26, 27, 28, 29, 9, 30, 31, 32, 33, 34, 35, 36, 37, 38, 39, 40, 41, 42, 43, 44, 45, 46, 47, 48, 49, 50, 51, 52, 53, 54, 55, 56, 57, 58, 59, 60, 61, 62] (by decide +kernel) (by decide +kernel)
set_option maxRecDepth 20000 in
theorem gX6_digest_X6_tells : GoodIn wsX6_digest (wsV RX6 125 RX6 yX6_tells wsX6_tells) := goodIn_app (goodIn_of _ (by decide +kernel)) ggX6_digest_X6_tells
theorem dX6_digest_0 : decode cX6_digest 0 = .ok (.ldc2_w 191, 3) := by decide +kernel
theorem dX6_digest_3 : decode cX6_digest 3 = .ok (.lstore_n 1, 1) := by decide +kernel
theorem dX6_digest_4 : decode cX6_digest 4 = .ok (.iconst 0, 1) := by decide +kernel
theorem dX6_digest_5 : decode cX6_digest 5 = .ok (.istore_n 3, 1) := by decide +kernel
theorem dX6_digest_6 : decode cX6_digest 6 = .ok (.iload_n 3, 1) := by decide +kernel
theorem dX6_digest_7 : decode cX6_digest 7 = .ok (.iconst 4, 1) := by decide +kernel
theorem dX6_digest_8 : decode cX6_digest 8 = .ok (.if_icmp .gt 22, 3) := by decide +kernel
theorem dX6_digest_11 : decode cX6_digest 11 = .ok (.ldc2_w 193, 3) := by decide +kernel
theorem dX6_digest_14 : decode cX6_digest 14 = .ok (.lload_n 1, 1) := by decide +kernel
theorem dX6_digest_15 : decode cX6_digest 15 = .ok (.lmul, 1) := by decide +kernel
theorem dX6_digest_16 : decode cX6_digest 16 = .ok (.aload_n 0, 1) := by decide +kernel
theorem dX6_digest_17 : decode cX6_digest 17 = .ok (.iload_n 3, 1) := by decide +kernel
theorem dX6_digest_18 : decode cX6_digest 18 = .ok (.invokevirtual 188, 3) := by decide +kernel
theorem dX6_digest_21 : decode cX6_digest 21 = .ok (.i2l, 1) := by decide +kernel
theorem dX6_digest_22 : decode cX6_digest 22 = .ok (.ladd, 1) := by decide +kernel
theorem dX6_digest_23 : decode cX6_digest 23 = .ok (.lstore_n 1, 1) := by decide +kernel
theorem dX6_digest_24 : decode cX6_digest 24 = .ok (.iinc 3 1, 3) := by decide +kernel
theorem dX6_digest_27 : decode cX6_digest 27 = .ok (.goto (-21), 3) := by decide +kernel
theorem dX6_digest_30 : decode cX6_digest 30 = .ok (.iconst 0, 1) := by decide +kernel
theorem dX6_digest_31 : decode cX6_digest 31 = .ok (.istore_n 3, 1) := by decide +kernel
theorem dX6_digest_32 : decode cX6_digest 32 = .ok (.iload_n 3, 1) := by decide +kernel
theorem dX6_digest_33 : decode cX6_digest 33 = .ok (.aload_n 0, 1) := by decide +kernel
theorem dX6_digest_34 : decode cX6_digest 34 = .ok (.getfield 110, 3) := by decide +kernel
theorem dX6_digest_37 : decode cX6_digest 37 = .ok (.if_icmp .ge 40, 3) := by decide +kernel
theorem dX6_digest_40 : decode cX6_digest 40 = .ok (.iconst 0, 1) := by decide +kernel
theorem dX6_digest_41 : decode cX6_digest 41 = .ok (.istore 4, 2) := by decide +kernel
theorem dX6_digest_43 : decode cX6_digest 43 = .ok (.iload 4, 2) := by decide +kernel
theorem dX6_digest_45 : decode cX6_digest 45 = .ok (.bipush 6, 2) := by decide +kernel
theorem dX6_digest_47 : decode cX6_digest 47 = .ok (.if_icmp .gt 24, 3) := by decide +kernel
theorem dX6_digest_50 : decode cX6_digest 50 = .ok (.ldc2_w 193, 3) := by decide +kernel
theorem dX6_digest_53 : decode cX6_digest 53 = .ok (.lload_n 1, 1) := by decide +kernel
theorem dX6_digest_54 : decode cX6_digest 54 = .ok (.lmul, 1) := by decide +kernel
theorem dX6_digest_55 : decode cX6_digest 55 = .ok (.aload_n 0, 1) := by decide +kernel
theorem dX6_digest_56 : decode cX6_digest 56 = .ok (.iload_n 3, 1) := by decide +kernel
theorem dX6_digest_57 : decode cX6_digest 57 = .ok (.iload 4, 2) := by decide +kernel
theorem dX6_digest_59 : decode cX6_digest 59 = .ok (.invokevirtual 125, 3) := by decide +kernel
theorem dX6_digest_62 : decode cX6_digest 62 = .ok (.i2l, 1) := by decide +kernel
theorem dX6_digest_63 : decode cX6_digest 63 = .ok (.ladd, 1) := by decide +kernel
theorem dX6_digest_64 : decode cX6_digest 64 = .ok (.lstore_n 1, 1) := by decide +kernel
theorem dX6_digest_65 : decode cX6_digest 65 = .ok (.iinc 4 1, 3) := by decide +kernel
theorem dX6_digest_68 : decode cX6_digest 68 = .ok (.goto (-25), 3) := by decide +kernel
theorem dX6_digest_71 : decode cX6_digest 71 = .ok (.iinc 3 1, 3) := by decide +kernel
theorem dX6_digest_74 : decode cX6_digest 74 = .ok (.goto (-42), 3) := by decide +kernel
theorem dX6_digest_77 : decode cX6_digest 77 = .ok (.iconst 0, 1) := by decide +kernel
theorem dX6_digest_78 : decode cX6_digest 78 = .ok (.istore_n 3, 1) := by decide +kernel
theorem dX6_digest_79 : decode cX6_digest 79 = .ok (.iload_n 3, 1) := by decide +kernel
theorem dX6_digest_80 : decode cX6_digest 80 = .ok (.bipush 12, 2) := by decide +kernel
theorem dX6_digest_82 : decode cX6_digest 82 = .ok (.if_icmp .ge 73, 3) := by decide +kernel
theorem dX6_digest_85 : decode cX6_digest 85 = .ok (.aload_n 0, 1) := by decide +kernel
theorem dX6_digest_86 : decode cX6_digest 86 = .ok (.getfield 17, 3) := by decide +kernel
theorem dX6_digest_89 : decode cX6_digest 89 = .ok (.iload_n 3, 1) := by decide +kernel
theorem dX6_digest_90 : decode cX6_digest 90 = .ok (.baload, 1) := by decide +kernel
theorem dX6_digest_91 : decode cX6_digest 91 = .ok (.ifCond .ne 11, 3) := by decide +kernel
theorem dX6_digest_94 : decode cX6_digest 94 = .ok (.ldc2_w 193, 3) := by decide +kernel
theorem dX6_digest_97 : decode cX6_digest 97 = .ok (.lload_n 1, 1) := by decide +kernel
theorem dX6_digest_98 : decode cX6_digest 98 = .ok (.lmul, 1) := by decide +kernel
theorem dX6_digest_99 : decode cX6_digest 99 = .ok (.lconst 1, 1) := by decide +kernel
theorem dX6_digest_100 : decode cX6_digest 100 = .ok (.lsub, 1) := by decide +kernel
theorem dX6_digest_101 : decode cX6_digest 101 = .ok (.lstore_n 1, 1) := by decide +kernel
theorem dX6_digest_102 : decode cX6_digest 102 = .ok (.iconst 0, 1) := by decide +kernel
theorem dX6_digest_103 : decode cX6_digest 103 = .ok (.istore 4, 2) := by decide +kernel
theorem dX6_digest_105 : decode cX6_digest 105 = .ok (.iload 4, 2) := by decide +kernel
theorem dX6_digest_107 : decode cX6_digest 107 = .ok (.sipush 160, 3) := by decide +kernel
theorem dX6_digest_110 : decode cX6_digest 110 = .ok (.if_icmp .ge 39, 3) := by decide +kernel
theorem dX6_digest_113 : decode cX6_digest 113 = .ok (.aload_n 0, 1) := by decide +kernel
theorem dX6_digest_114 : decode cX6_digest 114 = .ok (.getfield 17, 3) := by decide +kernel
theorem dX6_digest_117 : decode cX6_digest 117 = .ok (.iload_n 3, 1) := by decide +kernel
theorem dX6_digest_118 : decode cX6_digest 118 = .ok (.baload, 1) := by decide +kernel
theorem dX6_digest_119 : decode cX6_digest 119 = .ok (.ifCond .eq 30, 3) := by decide +kernel
theorem dX6_digest_122 : decode cX6_digest 122 = .ok (.ldc2_w 193, 3) := by decide +kernel
theorem dX6_digest_125 : decode cX6_digest 125 = .ok (.lload_n 1, 1) := by decide +kernel
theorem dX6_digest_126 : decode cX6_digest 126 = .ok (.lmul, 1) := by decide +kernel
theorem dX6_digest_127 : decode cX6_digest 127 = .ok (.aload_n 0, 1) := by decide +kernel
theorem dX6_digest_128 : decode cX6_digest 128 = .ok (.getfield 20, 3) := by decide +kernel
theorem dX6_digest_131 : decode cX6_digest 131 = .ok (.sipush 160, 3) := by decide +kernel
theorem dX6_digest_134 : decode cX6_digest 134 = .ok (.iload_n 3, 1) := by decide +kernel
theorem dX6_digest_135 : decode cX6_digest 135 = .ok (.imul, 1) := by decide +kernel
theorem dX6_digest_136 : decode cX6_digest 136 = .ok (.iload 4, 2) := by decide +kernel
theorem dX6_digest_138 : decode cX6_digest 138 = .ok (.iadd, 1) := by decide +kernel
theorem dX6_digest_139 : decode cX6_digest 139 = .ok (.iaload, 1) := by decide +kernel
theorem dX6_digest_140 : decode cX6_digest 140 = .ok (.i2l, 1) := by decide +kernel
theorem dX6_digest_141 : decode cX6_digest 141 = .ok (.ladd, 1) := by decide +kernel
theorem dX6_digest_142 : decode cX6_digest 142 = .ok (.lstore_n 1, 1) := by decide +kernel
theorem dX6_digest_143 : decode cX6_digest 143 = .ok (.iinc 4 1, 3) := by decide +kernel
theorem dX6_digest_146 : decode cX6_digest 146 = .ok (.goto (-41), 3) := by decide +kernel
theorem dX6_digest_149 : decode cX6_digest 149 = .ok (.iinc 3 1, 3) := by decide +kernel
theorem dX6_digest_152 : decode cX6_digest 152 = .ok (.goto (-73), 3) := by decide +kernel
theorem dX6_digest_155 : decode cX6_digest 155 = .ok (.lload_n 1, 1) := by decide +kernel
theorem dX6_digest_156 : decode cX6_digest 156 = .ok (.lreturn, 1) := by decide +kernel
theorem dJ9_floorMod_7cf53_0 : decode cJ9_floorMod_7cf53 0 = .ok (.iload_n 0, 1) := by decide +kernel
theorem dJ9_floorMod_7cf53_1 : decode cJ9_floorMod_7cf53 1 = .ok (.iload_n 1, 1) := by decide +kernel
theorem dJ9_floorMod_7cf53_2 : decode cJ9_floorMod_7cf53 2 = .ok (.irem, 1) := by decide +kernel
theorem dJ9_floorMod_7cf53_3 : decode cJ9_floorMod_7cf53 3 = .ok (.istore_n 2, 1) := by decide +kernel
theorem dJ9_floorMod_7cf53_4 : decode cJ9_floorMod_7cf53 4 = .ok (.iload_n 0, 1) := by decide +kernel
theorem dJ9_floorMod_7cf53_5 : decode cJ9_floorMod_7cf53 5 = .ok (.iload_n 1, 1) := by decide +kernel
theorem dJ9_floorMod_7cf53_6 : decode cJ9_floorMod_7cf53 6 = .ok (.ixor, 1) := by decide +kernel
theorem dJ9_floorMod_7cf53_7 : decode cJ9_floorMod_7cf53 7 = .ok (.ifCond .ge 11, 3) := by decide +kernel
theorem dJ9_floorMod_7cf53_10 : decode cJ9_floorMod_7cf53 10 = .ok (.iload_n 2, 1) := by decide +kernel
theorem dJ9_floorMod_7cf53_11 : decode cJ9_floorMod_7cf53 11 = .ok (.ifCond .eq 7, 3) := by decide +kernel
theorem dJ9_floorMod_7cf53_14 : decode cJ9_floorMod_7cf53 14 = .ok (.iload_n 2, 1) := by decide +kernel
theorem dJ9_floorMod_7cf53_15 : decode cJ9_floorMod_7cf53 15 = .ok (.iload_n 1, 1) := by decide +kernel
theorem dJ9_floorMod_7cf53_16 : decode cJ9_floorMod_7cf53 16 = .ok (.iadd, 1) := by decide +kernel
theorem dJ9_floorMod_7cf53_17 : decode cJ9_floorMod_7cf53 17 = .ok (.ireturn, 1) := by decide +kernel
theorem dJ9_floorMod_7cf53_18 : decode cJ9_floorMod_7cf53 18 = .ok (.iload_n 2, 1) := by decide +kernel
theorem dJ9_floorMod_7cf53_19 : decode cJ9_floorMod_7cf53 19 = .ok (.ireturn, 1) := by decide +kernel
theorem dJ9_abs_0f7a4_0 : decode cJ9_abs_0f7a4 0 = .ok (.iload_n 0, 1) := by decide +kernel
theorem dJ9_abs_0f7a4_1 : decode cJ9_abs_0f7a4 1 = .ok (.ifCond .ge 8, 3) := by decide +kernel
theorem dJ9_abs_0f7a4_4 : decode cJ9_abs_0f7a4 4 = .ok (.iload_n 0, 1) := by decide +kernel
theorem dJ9_abs_0f7a4_5 : decode cJ9_abs_0f7a4 5 = .ok (.ineg, 1) := by decide +kernel
theorem dJ9_abs_0f7a4_6 : decode cJ9_abs_0f7a4 6 = .ok (.goto 4, 3) := by decide +kernel
theorem dJ9_abs_0f7a4_9 : decode cJ9_abs_0f7a4 9 = .ok (.iload_n 0, 1) := by decide +kernel
theorem dJ9_abs_0f7a4_10 : decode cJ9_abs_0f7a4 10 = .ok (.ireturn, 1) := by decide +kernel
theorem dJ9_max_7cf53_0 : decode cJ9_max_7cf53 0 = .ok (.iload_n 0, 1) := by decide +kernel
theorem dJ9_max_7cf53_1 : decode cJ9_max_7cf53 1 = .ok (.iload_n 1, 1) := by decide +kernel
theorem dJ9_max_7cf53_2 : decode cJ9_max_7cf53 2 = .ok (.if_icmp .lt 7, 3) := by decide +kernel
theorem dJ9_max_7cf53_5 : decode cJ9_max_7cf53 5 = .ok (.iload_n 0, 1) := by decide +kernel
theorem dJ9_max_7cf53_6 : decode cJ9_max_7cf53 6 = .ok (.goto 4, 3) := by decide +kernel
theorem dJ9_max_7cf53_9 : decode cJ9_max_7cf53 9 = .ok (.iload_n 1, 1) := by decide +kernel
theorem dJ9_max_7cf53_10 : decode cJ9_max_7cf53 10 = .ok (.ireturn, 1) := by decide +kernel
theorem dJ9_min_7cf53_0 : decode cJ9_min_7cf53 0 = .ok (.iload_n 0, 1) := by decide +kernel
theorem dJ9_min_7cf53_1 : decode cJ9_min_7cf53 1 = .ok (.iload_n 1, 1) := by decide +kernel
theorem dJ9_min_7cf53_2 : decode cJ9_min_7cf53 2 = .ok (.if_icmp .gt 7, 3) := by decide +kernel
theorem dJ9_min_7cf53_5 : decode cJ9_min_7cf53 5 = .ok (.iload_n 0, 1) := by decide +kernel
theorem dJ9_min_7cf53_6 : decode cJ9_min_7cf53 6 = .ok (.goto 4, 3) := by decide +kernel
theorem dJ9_min_7cf53_9 : decode cJ9_min_7cf53 9 = .ok (.iload_n 1, 1) := by decide +kernel
theorem dJ9_min_7cf53_10 : decode cJ9_min_7cf53 10 = .ok (.ireturn, 1) := by decide +kernel
theorem dJxa1e45_init_da8c8_0 : decode cJxa1e45_init_da8c8 0 = .ok (.aload_n 0, 1) := by decide +kernel
theorem dJxa1e45_init_da8c8_1 : decode cJxa1e45_init_da8c8 1 = .ok (.invokespecial 1, 3) := by decide +kernel
theorem dJxa1e45_init_da8c8_4 : decode cJxa1e45_init_da8c8 4 = .ok (.return_, 1) := by decide +kernel
set_option maxRecDepth 20000 in
theorem ggJxc12de_init_da8c8_Jxa1e45_init_da8c8 : GoodIn wsJxc12de_init_da8c8 wsJxa1e45_init_da8c8 := goodIn_r _ [5, 6, 7, 8] (by decide +kernel) (by decide +kernel)
set_option maxRecDepth 20000 in
theorem gJxc12de_init_da8c8_Jxa1e45_init_da8c8 : GoodIn wsJxc12de_init_da8c8 (wsJxa1e45_init_da8c8) := ggJxc12de_init_da8c8_Jxa1e45_init_da8c8
theorem dJxc12de_init_da8c8_0 : decode cJxc12de_init_da8c8 0 = .ok (.aload_n 0, 1) := by decide +kernel
theorem dJxc12de_init_da8c8_1 : decode cJxc12de_init_da8c8 1 = .ok (.invokespecial 1, 3) := by decide +kernel
theorem dJxc12de_init_da8c8_4 : decode cJxc12de_init_da8c8 4 = .ok (.aload_n 0, 1) := by decide +kernel
theorem dJxc12de_init_da8c8_5 : decode cJxc12de_init_da8c8 5 = .ok (.iconst 0, 1) := by decide +kernel
theorem dJxc12de_init_da8c8_6 : decode cJxc12de_init_da8c8 6 = .ok (.putfield 7, 3) := by decide +kernel
theorem dJxc12de_init_da8c8_9 : decode cJxc12de_init_da8c8 9 = .ok (.return_, 1) := by decide +kernel
set_option maxRecDepth 20000 in
theorem ggJx4a65c_init_da8c8_Jxc12de_init_da8c8 : GoodIn wsJx4a65c_init_da8c8 wsJxc12de_init_da8c8 := goodIn_r _ [6, 7, 8, 9, 10, 11, 12, 13, 14, 15, 16, 17] (by decide +kernel) (by decide +kernel)
set_option maxRecDepth 20000 in
theorem gJx4a65c_init_da8c8_Jxc12de_init_da8c8 : GoodIn wsJx4a65c_init_da8c8 (wsJxc12de_init_da8c8) := ggJx4a65c_init_da8c8_Jxc12de_init_da8c8
theorem dJx4a65c_init_da8c8_0 : decode cJx4a65c_init_da8c8 0 = .ok (.aload_n 0, 1) := by decide +kernel
theorem dJx4a65c_init_da8c8_1 : decode cJx4a65c_init_da8c8 1 = .ok (.invokespecial 1, 3) := by decide +kernel
theorem dJx4a65c_init_da8c8_4 : decode cJx4a65c_init_da8c8 4 = .ok (.aload_n 0, 1) := by decide +kernel
theorem dJx4a65c_init_da8c8_5 : decode cJx4a65c_init_da8c8 5 = .ok (.getstatic 39, 3) := by decide +kernel
theorem dJx4a65c_init_da8c8_8 : decode cJx4a65c_init_da8c8 8 = .ok (.putfield 9, 3) := by decide +kernel
theorem dJx4a65c_init_da8c8_11 : decode cJx4a65c_init_da8c8 11 = .ok (.return_, 1) := by decide +kernel
set_option maxRecDepth 20000 in
theorem ggJx4a65c_grow_92f84_J8_newLength_cabcc : GoodIn wsJx4a65c_grow_92f84 wsJ8_newLength_cabcc := goodIn_r _ [11, 12, 4, 5, 6, 13, 14, 15, 10, 16] (by decide +kernel) (by decide +kernel)
set_option maxRecDepth 20000 in
theorem gJx4a65c_grow_92f84_J8_newLength_cabcc : GoodIn wsJx4a65c_grow_92f84 (va_wsS RJx4a65c 73 yJ8_newLength_cabcc wsJ8_newLength_cabcc) := goodIn_app (goodIn_of _ (by decide +kernel)) ggJx4a65c_grow_92f84_J8_newLength_cabcc
set_option maxRecDepth 20000 in
theorem ggJx4a65c_grow_92f84_J7_copyOf_1904c : GoodIn wsJx4a65c_grow_92f84 wsJ7_copyOf_1904c := goodIn_r _ [20, 21, 22, 23, 24, 25, 26, 19, 27, 28, 29, 30, 31, 5, 32, 33, 34, 35, 36] (by decide +kernel) (by decide +kernel)
set_option maxRecDepth 20000 in
theorem gJx4a65c_grow_92f84_J7_copyOf_1904c : GoodIn wsJx4a65c_grow_92f84 (va_wsS RJx4a65c 66 yJ7_copyOf_1904c wsJ7_copyOf_1904c) := goodIn_app (goodIn_of _ (by decide +kernel)) ggJx4a65c_grow_92f84_J7_copyOf_1904c
theorem dJx4a65c_grow_92f84_0 : decode cJx4a65c_grow_92f84 0 = .ok (.aload_n 0, 1) := by decide +kernel
theorem dJx4a65c_grow_92f84_1 : decode cJx4a65c_grow_92f84 1 = .ok (.getfield 9, 3) := by decide +kernel
theorem dJx4a65c_grow_92f84_4 : decode cJx4a65c_grow_92f84 4 = .ok (.arraylength, 1) := by decide +kernel
theorem dJx4a65c_grow_92f84_5 : decode cJx4a65c_grow_92f84 5 = .ok (.istore_n 2, 1) := by decide +kernel
theorem dJx4a65c_grow_92f84_6 : decode cJx4a65c_grow_92f84 6 = .ok (.iload_n 2, 1) := by decide +kernel
theorem dJx4a65c_grow_92f84_7 : decode cJx4a65c_grow_92f84 7 = .ok (.ifCond .gt 13, 3) := by decide +kernel
theorem dJx4a65c_grow_92f84_10 : decode cJx4a65c_grow_92f84 10 = .ok (.aload_n 0, 1) := by decide +kernel
theorem dJx4a65c_grow_92f84_11 : decode cJx4a65c_grow_92f84 11 = .ok (.getfield 9, 3) := by decide +kernel
theorem dJx4a65c_grow_92f84_14 : decode cJx4a65c_grow_92f84 14 = .ok (.getstatic 39, 3) := by decide +kernel
theorem dJx4a65c_grow_92f84_17 : decode cJx4a65c_grow_92f84 17 = .ok (.if_acmp .eq 28, 3) := by decide +kernel
theorem dJx4a65c_grow_92f84_20 : decode cJx4a65c_grow_92f84 20 = .ok (.iload_n 2, 1) := by decide +kernel
theorem dJx4a65c_grow_92f84_21 : decode cJx4a65c_grow_92f84 21 = .ok (.iload_n 1, 1) := by decide +kernel
theorem dJx4a65c_grow_92f84_22 : decode cJx4a65c_grow_92f84 22 = .ok (.iload_n 2, 1) := by decide +kernel
theorem dJx4a65c_grow_92f84_23 : decode cJx4a65c_grow_92f84 23 = .ok (.isub, 1) := by decide +kernel
theorem dJx4a65c_grow_92f84_24 : decode cJx4a65c_grow_92f84 24 = .ok (.iload_n 2, 1) := by decide +kernel
theorem dJx4a65c_grow_92f84_25 : decode cJx4a65c_grow_92f84 25 = .ok (.iconst 1, 1) := by decide +kernel
theorem dJx4a65c_grow_92f84_26 : decode cJx4a65c_grow_92f84 26 = .ok (.ishr, 1) := by decide +kernel
theorem dJx4a65c_grow_92f84_27 : decode cJx4a65c_grow_92f84 27 = .ok (.invokestatic 73, 3) := by decide +kernel
theorem dJx4a65c_grow_92f84_30 : decode cJx4a65c_grow_92f84 30 = .ok (.istore_n 3, 1) := by decide +kernel
theorem dJx4a65c_grow_92f84_31 : decode cJx4a65c_grow_92f84 31 = .ok (.aload_n 0, 1) := by decide +kernel
theorem dJx4a65c_grow_92f84_32 : decode cJx4a65c_grow_92f84 32 = .ok (.aload_n 0, 1) := by decide +kernel
theorem dJx4a65c_grow_92f84_33 : decode cJx4a65c_grow_92f84 33 = .ok (.getfield 9, 3) := by decide +kernel
theorem dJx4a65c_grow_92f84_36 : decode cJx4a65c_grow_92f84 36 = .ok (.iload_n 3, 1) := by decide +kernel
theorem dJx4a65c_grow_92f84_37 : decode cJx4a65c_grow_92f84 37 = .ok (.invokestatic 66, 3) := by decide +kernel
theorem dJx4a65c_grow_92f84_40 : decode cJx4a65c_grow_92f84 40 = .ok (.dup_x1, 1) := by decide +kernel
theorem dJx4a65c_grow_92f84_41 : decode cJx4a65c_grow_92f84 41 = .ok (.putfield 9, 3) := by decide +kernel
theorem dJx4a65c_grow_92f84_44 : decode cJx4a65c_grow_92f84 44 = .ok (.areturn, 1) := by decide +kernel
theorem dJx4a65c_grow_92f84_45 : decode cJx4a65c_grow_92f84 45 = .ok (.aload_n 0, 1) := by decide +kernel
theorem dJx4a65c_grow_92f84_46 : decode cJx4a65c_grow_92f84 46 = .ok (.bipush 10, 2) := by decide +kernel
theorem dJx4a65c_grow_92f84_48 : decode cJx4a65c_grow_92f84 48 = .ok (.iload_n 1, 1) := by decide +kernel
theorem dJx4a65c_grow_92f84_49 : decode cJx4a65c_grow_92f84 49 = .ok (.invokestatic 79, 3) := by decide +kernel
theorem dJx4a65c_grow_92f84_52 : decode cJx4a65c_grow_92f84 52 = .ok (.anewarray 7, 3) := by decide +kernel
theorem dJx4a65c_grow_92f84_55 : decode cJx4a65c_grow_92f84 55 = .ok (.dup_x1, 1) := by decide +kernel
theorem dJx4a65c_grow_92f84_56 : decode cJx4a65c_grow_92f84 56 = .ok (.putfield 9, 3) := by decide +kernel
theorem dJx4a65c_grow_92f84_59 : decode cJx4a65c_grow_92f84 59 = .ok (.areturn, 1) := by decide +kernel
set_option maxRecDepth 20000 in
theorem ggJx4a65c_grow_d5877_Jx4a65c_grow_92f84 : GoodIn wsJx4a65c_grow_d5877 wsJx4a65c_grow_92f84 := goodIn_r _ [6, 7, 8, 9, 10, 11, 12, 13, 14, 15, 16, 17, 18, 19, 20, 21, 22, 23, 24, 25, 26, 27, 28, 29, 30, 31, 32, 33, 34, 35, 36, 37, 38, 39, 40, 41, 42, 43, 44, 45] (by decide +kernel) (by decide +kernel)
set_option maxRecDepth 20000 in
theorem gJx4a65c_grow_d5877_Jx4a65c_grow_92f84 : GoodIn wsJx4a65c_grow_d5877 (wsV RJx4a65c 69 RJx4a65c yJx4a65c_grow_92f84 wsJx4a65c_grow_92f84) := goodIn_app (goodIn_of _ (by decide +kernel)) ggJx4a65c_grow_d5877_Jx4a65c_grow_92f84
theorem dJx4a65c_grow_d5877_0 : decode cJx4a65c_grow_d5877 0 = .ok (.aload_n 0, 1) := by decide +kernel
theorem dJx4a65c_grow_d5877_1 : decode cJx4a65c_grow_d5877 1 = .ok (.aload_n 0, 1) := by decide +kernel
theorem dJx4a65c_grow_d5877_2 : decode cJx4a65c_grow_d5877 2 = .ok (.getfield 48, 3) := by decide +kernel
theorem dJx4a65c_grow_d5877_5 : decode cJx4a65c_grow_d5877 5 = .ok (.iconst 1, 1) := by decide +kernel
theorem dJx4a65c_grow_d5877_6 : decode cJx4a65c_grow_d5877 6 = .ok (.iadd, 1) := by decide +kernel
theorem dJx4a65c_grow_d5877_7 : decode cJx4a65c_grow_d5877 7 = .ok (.invokevirtual 69, 3) := by decide +kernel
theorem dJx4a65c_grow_d5877_10 : decode cJx4a65c_grow_d5877 10 = .ok (.areturn, 1) := by decide +kernel
theorem dJx4a65c_size_8abf5_0 : decode cJx4a65c_size_8abf5 0 = .ok (.aload_n 0, 1) := by decide +kernel
theorem dJx4a65c_size_8abf5_1 : decode cJx4a65c_size_8abf5 1 = .ok (.getfield 48, 3) := by decide +kernel
theorem dJx4a65c_size_8abf5_4 : decode cJx4a65c_size_8abf5 4 = .ok (.ireturn, 1) := by decide +kernel
theorem dJx4a65c_elementData_915e3_0 : decode cJx4a65c_elementData_915e3 0 = .ok (.aload_n 0, 1) := by decide +kernel
theorem dJx4a65c_elementData_915e3_1 : decode cJx4a65c_elementData_915e3 1 = .ok (.getfield 9, 3) := by decide +kernel
theorem dJx4a65c_elementData_915e3_4 : decode cJx4a65c_elementData_915e3 4 = .ok (.iload_n 1, 1) := by decide +kernel
theorem dJx4a65c_elementData_915e3_5 : decode cJx4a65c_elementData_915e3 5 = .ok (.aaload, 1) := by decide +kernel
theorem dJx4a65c_elementData_915e3_6 : decode cJx4a65c_elementData_915e3 6 = .ok (.areturn, 1) := by decide +kernel
set_option maxRecDepth 20000 in
theorem ggJx4a65c_get_915e3_J15_checkIndex_7cf53 : GoodIn wsJx4a65c_get_915e3 wsJ15_checkIndex_7cf53 := goodIn_r _ [5, 6, 7, 8, 9] (by decide +kernel) (by decide +kernel)
set_option maxRecDepth 20000 in
theorem gJx4a65c_get_915e3_J15_checkIndex_7cf53 : GoodIn wsJx4a65c_get_915e3 (va_wsS RJx4a65c 118 yJ15_checkIndex_7cf53 wsJ15_checkIndex_7cf53) := goodIn_app (goodIn_of _ (by decide +kernel)) ggJx4a65c_get_915e3_J15_checkIndex_7cf53
set_option maxRecDepth 20000 in
theorem ggJx4a65c_get_915e3_Jx4a65c_elementData_915e3 : GoodIn wsJx4a65c_get_915e3 wsJx4a65c_elementData_915e3 := goodIn_r _ [14, 15, 16, 17, 18] (by decide +kernel) (by decide +kernel)
set_option maxRecDepth 20000 in
theorem gJx4a65c_get_915e3_Jx4a65c_elementData_915e3 : GoodIn wsJx4a65c_get_915e3 (wsV RJx4a65c 123 RJx4a65c yJx4a65c_elementData_915e3 wsJx4a65c_elementData_915e3) := goodIn_app (goodIn_of _ (by decide +kernel)) ggJx4a65c_get_915e3_Jx4a65c_elementData_915e3
theorem dJx4a65c_get_915e3_0 : decode cJx4a65c_get_915e3 0 = .ok (.iload_n 1, 1) := by decide +kernel
theorem dJx4a65c_get_915e3_1 : decode cJx4a65c_get_915e3 1 = .ok (.aload_n 0, 1) := by decide +kernel
theorem dJx4a65c_get_915e3_2 : decode cJx4a65c_get_915e3 2 = .ok (.getfield 48, 3) := by decide +kernel
theorem dJx4a65c_get_915e3_5 : decode cJx4a65c_get_915e3 5 = .ok (.invokestatic 118, 3) := by decide +kernel
theorem dJx4a65c_get_915e3_8 : decode cJx4a65c_get_915e3 8 = .ok (.pop, 1) := by decide +kernel
theorem dJx4a65c_get_915e3_9 : decode cJx4a65c_get_915e3 9 = .ok (.aload_n 0, 1) := by decide +kernel
theorem dJx4a65c_get_915e3_10 : decode cJx4a65c_get_915e3 10 = .ok (.iload_n 1, 1) := by decide +kernel
theorem dJx4a65c_get_915e3_11 : decode cJx4a65c_get_915e3 11 = .ok (.invokevirtual 123, 3) := by decide +kernel
theorem dJx4a65c_get_915e3_14 : decode cJx4a65c_get_915e3 14 = .ok (.areturn, 1) := by decide +kernel
set_option maxRecDepth 20000 in
theorem ggJx4a65c_add_72be8_Jx4a65c_grow_d5877 : GoodIn wsJx4a65c_add_72be8 wsJx4a65c_grow_d5877 := goodIn_r _ [6, 1, 7, 8, 9, 5, 10, 11, 12, 13, 14, 15, 16, 17, 18, 19, 20, 21, 22, 23, 24, 25, 26, 27, 28, 29, 30, 31, 32, 33, 34, 35, 36, 37, 38, 39, 40, 41, 42, 43, 44, 45, 46, 47, 48, 49] (by decide +kernel) (by decide +kernel)
set_option maxRecDepth 20000 in
theorem gJx4a65c_add_72be8_Jx4a65c_grow_d5877 : GoodIn wsJx4a65c_add_72be8 (wsV RJx4a65c 129 RJx4a65c yJx4a65c_grow_d5877 wsJx4a65c_grow_d5877) := goodIn_app (goodIn_of _ (by decide +kernel)) ggJx4a65c_add_72be8_Jx4a65c_grow_d5877
theorem dJx4a65c_add_72be8_0 : decode cJx4a65c_add_72be8 0 = .ok (.iload_n 3, 1) := by decide +kernel
theorem dJx4a65c_add_72be8_1 : decode cJx4a65c_add_72be8 1 = .ok (.aload_n 2, 1) := by decide +kernel
theorem dJx4a65c_add_72be8_2 : decode cJx4a65c_add_72be8 2 = .ok (.arraylength, 1) := by decide +kernel
theorem dJx4a65c_add_72be8_3 : decode cJx4a65c_add_72be8 3 = .ok (.if_icmp .ne 8, 3) := by decide +kernel
theorem dJx4a65c_add_72be8_6 : decode cJx4a65c_add_72be8 6 = .ok (.aload_n 0, 1) := by decide +kernel
theorem dJx4a65c_add_72be8_7 : decode cJx4a65c_add_72be8 7 = .ok (.invokevirtual 129, 3) := by decide +kernel
theorem dJx4a65c_add_72be8_10 : decode cJx4a65c_add_72be8 10 = .ok (.astore_n 2, 1) := by decide +kernel
theorem dJx4a65c_add_72be8_11 : decode cJx4a65c_add_72be8 11 = .ok (.aload_n 2, 1) := by decide +kernel
theorem dJx4a65c_add_72be8_12 : decode cJx4a65c_add_72be8 12 = .ok (.iload_n 3, 1) := by decide +kernel
theorem dJx4a65c_add_72be8_13 : decode cJx4a65c_add_72be8 13 = .ok (.aload_n 1, 1) := by decide +kernel
theorem dJx4a65c_add_72be8_14 : decode cJx4a65c_add_72be8 14 = .ok (.aastore, 1) := by decide +kernel
theorem dJx4a65c_add_72be8_15 : decode cJx4a65c_add_72be8 15 = .ok (.aload_n 0, 1) := by decide +kernel
theorem dJx4a65c_add_72be8_16 : decode cJx4a65c_add_72be8 16 = .ok (.iload_n 3, 1) := by decide +kernel
theorem dJx4a65c_add_72be8_17 : decode cJx4a65c_add_72be8 17 = .ok (.iconst 1, 1) := by decide +kernel
theorem dJx4a65c_add_72be8_18 : decode cJx4a65c_add_72be8 18 = .ok (.iadd, 1) := by decide +kernel
theorem dJx4a65c_add_72be8_19 : decode cJx4a65c_add_72be8 19 = .ok (.putfield 48, 3) := by decide +kernel
theorem dJx4a65c_add_72be8_22 : decode cJx4a65c_add_72be8 22 = .ok (.return_, 1) := by decide +kernel
set_option maxRecDepth 20000 in
theorem ggJx4a65c_add_9ea2d_Jx4a65c_add_72be8 : GoodIn wsJx4a65c_add_9ea2d wsJx4a65c_add_72be8 := goodIn_r _ [9, 4, 10, 11, 12, 8, 13, 14, 15, 16, 17, 3, 18, 19, 20, 21, 22, 23, 24, 25, 26, 27, 28, 29, 30, 31, 32, 33, 34, 35, 36, 37, 38, 39, 40, 41, 42, 43, 44, 45, 46, 47, 48, 49, 50, 51, 52, 53, 54, 55] (by decide +kernel) (by decide +kernel)
set_option maxRecDepth 20000 in
theorem gJx4a65c_add_9ea2d_Jx4a65c_add_72be8 : GoodIn wsJx4a65c_add_9ea2d (wsV RJx4a65c 131 RJx4a65c yJx4a65c_add_72be8 wsJx4a65c_add_72be8) := goodIn_app (goodIn_of _ (by decide +kernel)) ggJx4a65c_add_9ea2d_Jx4a65c_add_72be8
theorem dJx4a65c_add_9ea2d_0 : decode cJx4a65c_add_9ea2d 0 = .ok (.aload_n 0, 1) := by decide +kernel
theorem dJx4a65c_add_9ea2d_1 : decode cJx4a65c_add_9ea2d 1 = .ok (.dup, 1) := by decide +kernel
theorem dJx4a65c_add_9ea2d_2 : decode cJx4a65c_add_9ea2d 2 = .ok (.getfield 63, 3) := by decide +kernel
theorem dJx4a65c_add_9ea2d_5 : decode cJx4a65c_add_9ea2d 5 = .ok (.iconst 1, 1) := by decide +kernel
theorem dJx4a65c_add_9ea2d_6 : decode cJx4a65c_add_9ea2d 6 = .ok (.iadd, 1) := by decide +kernel
theorem dJx4a65c_add_9ea2d_7 : decode cJx4a65c_add_9ea2d 7 = .ok (.putfield 63, 3) := by decide +kernel
theorem dJx4a65c_add_9ea2d_10 : decode cJx4a65c_add_9ea2d 10 = .ok (.aload_n 0, 1) := by decide +kernel
theorem dJx4a65c_add_9ea2d_11 : decode cJx4a65c_add_9ea2d 11 = .ok (.aload_n 1, 1) := by decide +kernel
theorem dJx4a65c_add_9ea2d_12 : decode cJx4a65c_add_9ea2d 12 = .ok (.aload_n 0, 1) := by decide +kernel
theorem dJx4a65c_add_9ea2d_13 : decode cJx4a65c_add_9ea2d 13 = .ok (.getfield 9, 3) := by decide +kernel
theorem dJx4a65c_add_9ea2d_16 : decode cJx4a65c_add_9ea2d 16 = .ok (.aload_n 0, 1) := by decide +kernel
theorem dJx4a65c_add_9ea2d_17 : decode cJx4a65c_add_9ea2d 17 = .ok (.getfield 48, 3) := by decide +kernel
theorem dJx4a65c_add_9ea2d_20 : decode cJx4a65c_add_9ea2d 20 = .ok (.invokevirtual 131, 3) := by decide +kernel
theorem dJx4a65c_add_9ea2d_23 : decode cJx4a65c_add_9ea2d 23 = .ok (.iconst 1, 1) := by decide +kernel
theorem dJx4a65c_add_9ea2d_24 : decode cJx4a65c_add_9ea2d 24 = .ok (.ireturn, 1) := by decide +kernel
theorem dJ7_fill_031fb_0 : decode cJ7_fill_031fb 0 = .ok (.iconst 0, 1) := by decide +kernel
theorem dJ7_fill_031fb_1 : decode cJ7_fill_031fb 1 = .ok (.istore_n 2, 1) := by decide +kernel
theorem dJ7_fill_031fb_2 : decode cJ7_fill_031fb 2 = .ok (.aload_n 0, 1) := by decide +kernel
theorem dJ7_fill_031fb_3 : decode cJ7_fill_031fb 3 = .ok (.arraylength, 1) := by decide +kernel
theorem dJ7_fill_031fb_4 : decode cJ7_fill_031fb 4 = .ok (.istore_n 3, 1) := by decide +kernel
theorem dJ7_fill_031fb_5 : decode cJ7_fill_031fb 5 = .ok (.iload_n 2, 1) := by decide +kernel
theorem dJ7_fill_031fb_6 : decode cJ7_fill_031fb 6 = .ok (.iload_n 3, 1) := by decide +kernel
theorem dJ7_fill_031fb_7 : decode cJ7_fill_031fb 7 = .ok (.if_icmp .ge 13, 3) := by decide +kernel
theorem dJ7_fill_031fb_10 : decode cJ7_fill_031fb 10 = .ok (.aload_n 0, 1) := by decide +kernel
theorem dJ7_fill_031fb_11 : decode cJ7_fill_031fb 11 = .ok (.iload_n 2, 1) := by decide +kernel
theorem dJ7_fill_031fb_12 : decode cJ7_fill_031fb 12 = .ok (.iload_n 1, 1) := by decide +kernel
theorem dJ7_fill_031fb_13 : decode cJ7_fill_031fb 13 = .ok (.bastore, 1) := by decide +kernel
theorem dJ7_fill_031fb_14 : decode cJ7_fill_031fb 14 = .ok (.iinc 2 1, 3) := by decide +kernel
theorem dJ7_fill_031fb_17 : decode cJ7_fill_031fb 17 = .ok (.goto (-12), 3) := by decide +kernel
theorem dJ7_fill_031fb_20 : decode cJ7_fill_031fb 20 = .ok (.return_, 1) := by decide +kernel
set_option maxRecDepth 20000 in
theorem ggJ7_copyOf_1904c_J7_copyOf_6403c : GoodIn wsJ7_copyOf_1904c wsJ7_copyOf_6403c := goodIn_r _ [8, 9, 10, 11, 12, 13, 14, 15, 16, 17, 18] (by decide +kernel) (by decide +kernel)
set_option maxRecDepth 20000 in
theorem gJ7_copyOf_1904c_J7_copyOf_6403c : GoodIn wsJ7_copyOf_1904c (va_wsS RJ7 300 yJ7_copyOf_6403c wsJ7_copyOf_6403c) := goodIn_app (goodIn_of _ (by decide +kernel)) ggJ7_copyOf_1904c_J7_copyOf_6403c
theorem dJ7_copyOf_1904c_0 : decode cJ7_copyOf_1904c 0 = .ok (.aload_n 0, 1) := by decide +kernel
theorem dJ7_copyOf_1904c_1 : decode cJ7_copyOf_1904c 1 = .ok (.iload_n 1, 1) := by decide +kernel
theorem dJ7_copyOf_1904c_2 : decode cJ7_copyOf_1904c 2 = .ok (.aload_n 0, 1) := by decide +kernel
end
section
theorem dJ7_copyOf_1904c_3 : decode cJ7_copyOf_1904c 3 = .ok (.invokevirtual 86, 3) := by decide +kernel
theorem dJ7_copyOf_1904c_6 : decode cJ7_copyOf_1904c 6 = .ok (.invokestatic 300, 3) := by decide +kernel
theorem dJ7_copyOf_1904c_9 : decode cJ7_copyOf_1904c 9 = .ok (.areturn, 1) := by decide +kernel
theorem dJ7_copyOf_6403c_0 : decode cJ7_copyOf_6403c 0 = .ok (.aload_n 2, 1) := by decide +kernel
theorem dJ7_copyOf_6403c_1 : decode cJ7_copyOf_6403c 1 = .ok (.ldc 110, 2) := by decide +kernel
theorem dJ7_copyOf_6403c_3 : decode cJ7_copyOf_6403c 3 = .ok (.if_acmp .ne 10, 3) := by decide +kernel
theorem dJ7_copyOf_6403c_6 : decode cJ7_copyOf_6403c 6 = .ok (.iload_n 1, 1) := by decide +kernel
theorem dJ7_copyOf_6403c_7 : decode cJ7_copyOf_6403c 7 = .ok (.anewarray 2, 3) := by decide +kernel
theorem dJ7_copyOf_6403c_10 : decode cJ7_copyOf_6403c 10 = .ok (.goto 14, 3) := by decide +kernel
theorem dJ7_copyOf_6403c_13 : decode cJ7_copyOf_6403c 13 = .ok (.aload_n 2, 1) := by decide +kernel
theorem dJ7_copyOf_6403c_14 : decode cJ7_copyOf_6403c 14 = .ok (.invokevirtual 90, 3) := by decide +kernel
theorem dJ7_copyOf_6403c_17 : decode cJ7_copyOf_6403c 17 = .ok (.iload_n 1, 1) := by decide +kernel
theorem dJ7_copyOf_6403c_18 : decode cJ7_copyOf_6403c 18 = .ok (.invokestatic 95, 3) := by decide +kernel
theorem dJ7_copyOf_6403c_21 : decode cJ7_copyOf_6403c 21 = .ok (.checkcast 110, 3) := by decide +kernel
theorem dJ7_copyOf_6403c_24 : decode cJ7_copyOf_6403c 24 = .ok (.astore_n 3, 1) := by decide +kernel
theorem dJ7_copyOf_6403c_25 : decode cJ7_copyOf_6403c 25 = .ok (.aload_n 0, 1) := by decide +kernel
theorem dJ7_copyOf_6403c_26 : decode cJ7_copyOf_6403c 26 = .ok (.iconst 0, 1) := by decide +kernel
theorem dJ7_copyOf_6403c_27 : decode cJ7_copyOf_6403c 27 = .ok (.aload_n 3, 1) := by decide +kernel
theorem dJ7_copyOf_6403c_28 : decode cJ7_copyOf_6403c 28 = .ok (.iconst 0, 1) := by decide +kernel
theorem dJ7_copyOf_6403c_29 : decode cJ7_copyOf_6403c 29 = .ok (.aload_n 0, 1) := by decide +kernel
theorem dJ7_copyOf_6403c_30 : decode cJ7_copyOf_6403c 30 = .ok (.arraylength, 1) := by decide +kernel
theorem dJ7_copyOf_6403c_31 : decode cJ7_copyOf_6403c 31 = .ok (.iload_n 1, 1) := by decide +kernel
theorem dJ7_copyOf_6403c_32 : decode cJ7_copyOf_6403c 32 = .ok (.invokestatic 304, 3) := by decide +kernel
theorem dJ7_copyOf_6403c_35 : decode cJ7_copyOf_6403c 35 = .ok (.invokestatic 150, 3) := by decide +kernel
theorem dJ7_copyOf_6403c_38 : decode cJ7_copyOf_6403c 38 = .ok (.aload_n 3, 1) := by decide +kernel
theorem dJ7_copyOf_6403c_39 : decode cJ7_copyOf_6403c 39 = .ok (.areturn, 1) := by decide +kernel
set_option maxRecDepth 20000 in
theorem ggJ15_checkIndex_7cf53_J3_checkIndex_8e157 : GoodIn wsJ15_checkIndex_7cf53 wsJ3_checkIndex_8e157 := goodIn_r _ [4] (by decide +kernel) (by decide +kernel)
set_option maxRecDepth 20000 in
theorem gJ15_checkIndex_7cf53_J3_checkIndex_8e157 : GoodIn wsJ15_checkIndex_7cf53 (va_wsS RJ15 105 yJ3_checkIndex_8e157 wsJ3_checkIndex_8e157) := goodIn_app (goodIn_of _ (by decide +kernel)) ggJ15_checkIndex_7cf53_J3_checkIndex_8e157
theorem dJ15_checkIndex_7cf53_0 : decode cJ15_checkIndex_7cf53 0 = .ok (.iload_n 0, 1) := by decide +kernel
theorem dJ15_checkIndex_7cf53_1 : decode cJ15_checkIndex_7cf53 1 = .ok (.iload_n 1, 1) := by decide +kernel
theorem dJ15_checkIndex_7cf53_2 : decode cJ15_checkIndex_7cf53 2 = .ok (.aconst_null, 1) := by decide +kernel
theorem dJ15_checkIndex_7cf53_3 : decode cJ15_checkIndex_7cf53 3 = .ok (.invokestatic 105, 3) := by decide +kernel
theorem dJ15_checkIndex_7cf53_6 : decode cJ15_checkIndex_7cf53 6 = .ok (.ireturn, 1) := by decide +kernel
set_option maxRecDepth 20000 in
theorem ggJ8_newLength_cabcc_J8_hugeLength_7cf53 : GoodIn wsJ8_newLength_cabcc wsJ8_hugeLength_7cf53 := goodIn_r _ [9, 5] (by decide +kernel) (by decide +kernel)
set_option maxRecDepth 20000 in
theorem gJ8_newLength_cabcc_J8_hugeLength_7cf53 : GoodIn wsJ8_newLength_cabcc (va_wsS RJ8 201 yJ8_hugeLength_7cf53 wsJ8_hugeLength_7cf53) := goodIn_app (goodIn_of _ (by decide +kernel)) ggJ8_newLength_cabcc_J8_hugeLength_7cf53
theorem dJ8_newLength_cabcc_0 : decode cJ8_newLength_cabcc 0 = .ok (.iload_n 0, 1) := by decide +kernel
theorem dJ8_newLength_cabcc_1 : decode cJ8_newLength_cabcc 1 = .ok (.iload_n 1, 1) := by decide +kernel
theorem dJ8_newLength_cabcc_2 : decode cJ8_newLength_cabcc 2 = .ok (.iload_n 2, 1) := by decide +kernel
theorem dJ8_newLength_cabcc_3 : decode cJ8_newLength_cabcc 3 = .ok (.invokestatic 194, 3) := by decide +kernel
theorem dJ8_newLength_cabcc_6 : decode cJ8_newLength_cabcc 6 = .ok (.iadd, 1) := by decide +kernel
theorem dJ8_newLength_cabcc_7 : decode cJ8_newLength_cabcc 7 = .ok (.istore_n 3, 1) := by decide +kernel
theorem dJ8_newLength_cabcc_8 : decode cJ8_newLength_cabcc 8 = .ok (.iconst 0, 1) := by decide +kernel
theorem dJ8_newLength_cabcc_9 : decode cJ8_newLength_cabcc 9 = .ok (.iload_n 3, 1) := by decide +kernel
theorem dJ8_newLength_cabcc_10 : decode cJ8_newLength_cabcc 10 = .ok (.if_icmp .ge 11, 3) := by decide +kernel
theorem dJ8_newLength_cabcc_13 : decode cJ8_newLength_cabcc 13 = .ok (.iload_n 3, 1) := by decide +kernel
theorem dJ8_newLength_cabcc_14 : decode cJ8_newLength_cabcc 14 = .ok (.ldc 200, 2) := by decide +kernel
theorem dJ8_newLength_cabcc_16 : decode cJ8_newLength_cabcc 16 = .ok (.if_icmp .gt 5, 3) := by decide +kernel
theorem dJ8_newLength_cabcc_19 : decode cJ8_newLength_cabcc 19 = .ok (.iload_n 3, 1) := by decide +kernel
theorem dJ8_newLength_cabcc_20 : decode cJ8_newLength_cabcc 20 = .ok (.ireturn, 1) := by decide +kernel
theorem dJ8_newLength_cabcc_21 : decode cJ8_newLength_cabcc 21 = .ok (.iload_n 0, 1) := by decide +kernel
theorem dJ8_newLength_cabcc_22 : decode cJ8_newLength_cabcc 22 = .ok (.iload_n 1, 1) := by decide +kernel
theorem dJ8_newLength_cabcc_23 : decode cJ8_newLength_cabcc 23 = .ok (.invokestatic 201, 3) := by decide +kernel
theorem dJ8_newLength_cabcc_26 : decode cJ8_newLength_cabcc 26 = .ok (.ireturn, 1) := by decide +kernel
theorem dJ8_hugeLength_7cf53_0 : decode cJ8_hugeLength_7cf53 0 = .ok (.iload_n 0, 1) := by decide +kernel
theorem dJ8_hugeLength_7cf53_1 : decode cJ8_hugeLength_7cf53 1 = .ok (.iload_n 1, 1) := by decide +kernel
theorem dJ8_hugeLength_7cf53_2 : decode cJ8_hugeLength_7cf53 2 = .ok (.iadd, 1) := by decide +kernel
theorem dJ8_hugeLength_7cf53_3 : decode cJ8_hugeLength_7cf53 3 = .ok (.istore_n 2, 1) := by decide +kernel
theorem dJ8_hugeLength_7cf53_4 : decode cJ8_hugeLength_7cf53 4 = .ok (.iload_n 2, 1) := by decide +kernel
theorem dJ8_hugeLength_7cf53_5 : decode cJ8_hugeLength_7cf53 5 = .ok (.ifCond .ge 44, 3) := by decide +kernel
theorem dJ8_hugeLength_7cf53_8 : decode cJ8_hugeLength_7cf53 8 = .ok (.new 204, 3) := by decide +kernel
theorem dJ8_hugeLength_7cf53_11 : decode cJ8_hugeLength_7cf53 11 = .ok (.dup, 1) := by decide +kernel
theorem dJ8_hugeLength_7cf53_12 : decode cJ8_hugeLength_7cf53 12 = .ok (.new 89, 3) := by decide +kernel
theorem dJ8_hugeLength_7cf53_15 : decode cJ8_hugeLength_7cf53 15 = .ok (.dup, 1) := by decide +kernel
theorem dJ8_hugeLength_7cf53_16 : decode cJ8_hugeLength_7cf53 16 = .ok (.invokespecial 91, 3) := by decide +kernel
theorem dJ8_hugeLength_7cf53_19 : decode cJ8_hugeLength_7cf53 19 = .ok (.ldc 206, 2) := by decide +kernel
theorem dJ8_hugeLength_7cf53_21 : decode cJ8_hugeLength_7cf53 21 = .ok (.invokevirtual 94, 3) := by decide +kernel
theorem dJ8_hugeLength_7cf53_24 : decode cJ8_hugeLength_7cf53 24 = .ok (.iload_n 0, 1) := by decide +kernel
theorem dJ8_hugeLength_7cf53_25 : decode cJ8_hugeLength_7cf53 25 = .ok (.invokevirtual 98, 3) := by decide +kernel
theorem dJ8_hugeLength_7cf53_28 : decode cJ8_hugeLength_7cf53 28 = .ok (.ldc 208, 2) := by decide +kernel
theorem dJ8_hugeLength_7cf53_30 : decode cJ8_hugeLength_7cf53 30 = .ok (.invokevirtual 94, 3) := by decide +kernel
theorem dJ8_hugeLength_7cf53_33 : decode cJ8_hugeLength_7cf53 33 = .ok (.iload_n 1, 1) := by decide +kernel
theorem dJ8_hugeLength_7cf53_34 : decode cJ8_hugeLength_7cf53 34 = .ok (.invokevirtual 98, 3) := by decide +kernel
theorem dJ8_hugeLength_7cf53_37 : decode cJ8_hugeLength_7cf53 37 = .ok (.ldc 210, 2) := by decide +kernel
theorem dJ8_hugeLength_7cf53_39 : decode cJ8_hugeLength_7cf53 39 = .ok (.invokevirtual 94, 3) := by decide +kernel
theorem dJ8_hugeLength_7cf53_42 : decode cJ8_hugeLength_7cf53 42 = .ok (.invokevirtual 101, 3) := by decide +kernel
theorem dJ8_hugeLength_7cf53_45 : decode cJ8_hugeLength_7cf53 45 = .ok (.invokespecial 212, 3) := by decide +kernel
theorem dJ8_hugeLength_7cf53_48 : decode cJ8_hugeLength_7cf53 48 = .ok (.athrow, 1) := by decide +kernel
theorem dJ8_hugeLength_7cf53_49 : decode cJ8_hugeLength_7cf53 49 = .ok (.iload_n 2, 1) := by decide +kernel
theorem dJ8_hugeLength_7cf53_50 : decode cJ8_hugeLength_7cf53 50 = .ok (.ldc 200, 2) := by decide +kernel
theorem dJ8_hugeLength_7cf53_52 : decode cJ8_hugeLength_7cf53 52 = .ok (.if_icmp .gt 6, 3) := by decide +kernel
theorem dJ8_hugeLength_7cf53_55 : decode cJ8_hugeLength_7cf53 55 = .ok (.ldc 200, 2) := by decide +kernel
theorem dJ8_hugeLength_7cf53_57 : decode cJ8_hugeLength_7cf53 57 = .ok (.ireturn, 1) := by decide +kernel
theorem dJ8_hugeLength_7cf53_58 : decode cJ8_hugeLength_7cf53 58 = .ok (.iload_n 2, 1) := by decide +kernel
theorem dJ8_hugeLength_7cf53_59 : decode cJ8_hugeLength_7cf53 59 = .ok (.ireturn, 1) := by decide +kernel
theorem dJ3_checkIndex_8e157_0 : decode cJ3_checkIndex_8e157 0 = .ok (.iload_n 0, 1) := by decide +kernel
theorem dJ3_checkIndex_8e157_1 : decode cJ3_checkIndex_8e157 1 = .ok (.ifCond .lt 8, 3) := by decide +kernel
theorem dJ3_checkIndex_8e157_4 : decode cJ3_checkIndex_8e157 4 = .ok (.iload_n 0, 1) := by decide +kernel
theorem dJ3_checkIndex_8e157_5 : decode cJ3_checkIndex_8e157 5 = .ok (.iload_n 1, 1) := by decide +kernel
theorem dJ3_checkIndex_8e157_6 : decode cJ3_checkIndex_8e157 6 = .ok (.if_icmp .lt 10, 3) := by decide +kernel
theorem dJ3_checkIndex_8e157_9 : decode cJ3_checkIndex_8e157 9 = .ok (.aload_n 2, 1) := by decide +kernel
theorem dJ3_checkIndex_8e157_10 : decode cJ3_checkIndex_8e157 10 = .ok (.iload_n 0, 1) := by decide +kernel
theorem dJ3_checkIndex_8e157_11 : decode cJ3_checkIndex_8e157 11 = .ok (.iload_n 1, 1) := by decide +kernel
theorem dJ3_checkIndex_8e157_12 : decode cJ3_checkIndex_8e157 12 = .ok (.invokestatic 95, 3) := by decide +kernel
theorem dJ3_checkIndex_8e157_15 : decode cJ3_checkIndex_8e157 15 = .ok (.athrow, 1) := by decide +kernel
theorem dJ3_checkIndex_8e157_16 : decode cJ3_checkIndex_8e157 16 = .ok (.iload_n 0, 1) := by decide +kernel
theorem dJ3_checkIndex_8e157_17 : decode cJ3_checkIndex_8e157 17 = .ok (.ireturn, 1) := by decide +kernel
set_option maxRecDepth 20000 in
theorem ggL_law_X5_init : GoodIn wsL_law wsX5_init := goodIn_r _ [8, 9, 10, 11, 12, 13, 14, 15, 16, 17, 18, 19, 20, 21, 22, 23, 24, 25, 26, 27, 28, 29, 30, 31, 32, 33, 34, 35, 36, 37, 38, 39, 40, 41, 42, 43, 44, 45, 46, 47, 48, 49, 50, 51, 52, 53, 54, 55, 56, 57, 58, 59, 60, 61, 62, 833, 834, 835, 790, 791, 792, 793, 794, 795, 796, 797, 798, 799, 800, 801, 836, 837, 838, 839, 840] (by decide +kernel) (by decide +kernel)
set_option maxRecDepth 20000 in
theorem gL_law_X5_init : GoodIn wsL_law (wsX5_init) := ggL_law_X5_init
set_option maxRecDepth 20000 in
theorem ggL_law_X6_init : GoodIn wsL_law wsX6_init := goodIn_r _ [65, 66, 10, 11, 24, 67, 37, 68, 69, 70, 71, 72, 73, 74, 75, 76, 77, 78, 79, 80, 81, 82, 83, 84, 85, 86, 87, 88, 89, 90, 802, 803, 804, 805, 806, 807, 808, 809, 810, 811, 812, 813, 814, 815, 816, 817, 818, 819, 820, 821, 822, 823, 824, 825, 826, 827, 828, 829, 830, 831, 832] (by decide +kernel) (by decide +kernel)
set_option maxRecDepth 20000 in
theorem gL_law_X6_init : GoodIn wsL_law (wsX6_init) := ggL_law_X6_init
set_option maxRecDepth 20000 in
theorem ggL_law_X5_land : GoodIn wsL_law wsX5_land := goodIn_r _ [94, 15, 95, 96, 2, 97, 98, 99, 100, 14, 101, 38, 102, 103, 104, 105, 790, 791, 792, 793, 794, 795, 796, 797, 798, 799, 800, 801, 833, 834, 835] (by decide +kernel) (by decide +kernel)
set_option maxRecDepth 20000 in
theorem gL_law_X5_land : GoodIn wsL_law (wsV RL 13 RX5 yX5_land wsX5_land) := goodIn_app (goodIn_of _ (by decide +kernel)) ggL_law_X5_land
set_option maxRecDepth 20000 in
theorem ggL_law_X6_land : GoodIn wsL_law wsX6_land := goodIn_r _ [109, 68, 110, 111, 5, 112, 113, 114, 115, 802, 803, 804, 805, 806, 807, 808, 809, 810, 811, 812, 813, 814, 815, 816, 817, 818, 819, 820, 821, 822, 823, 824, 825, 826, 827, 828, 829, 830, 831, 832] (by decide +kernel) (by decide +kernel)
set_option maxRecDepth 20000 in
theorem gL_law_X6_land : GoodIn wsL_law (wsV RL 17 RX6 yX6_land wsX6_land) := goodIn_app (goodIn_of _ (by decide +kernel)) ggL_law_X6_land
set_option maxRecDepth 20000 in
theorem ggL_law_X5_chart : GoodIn wsL_law wsX5_chart := goodIn_r _ [119, 15, 95, 96, 2, 97, 120, 121, 122, 14, 123, 39, 124, 125, 126, 127, 42, 128, 129, 130, 131, 790, 791, 792, 793, 794, 795, 796, 797, 798, 799, 800, 801, 833, 834, 835] (by decide +kernel) (by decide +kernel)
set_option maxRecDepth 20000 in
theorem gL_law_X5_chart : GoodIn wsL_law (wsV RL 18 RX5 yX5_chart wsX5_chart) := goodIn_app (goodIn_of _ (by decide +kernel)) ggL_law_X5_chart
set_option maxRecDepth 20000 in
theorem ggL_law_X6_chart : GoodIn wsL_law wsX6_chart := goodIn_r _ [135, 69, 70, 136, 137, 5, 138, 113, 114, 115, 802, 803, 804, 805, 806, 807, 808, 809, 810, 811, 812, 813, 814, 815, 816, 817, 818, 819, 820, 821, 822, 823, 824, 825, 826, 827, 828, 829, 830, 831, 832] (by decide +kernel) (by decide +kernel)
set_option maxRecDepth 20000 in
theorem gL_law_X6_chart : GoodIn wsL_law (wsV RL 22 RX6 yX6_chart wsX6_chart) := goodIn_app (goodIn_of _ (by decide +kernel)) ggL_law_X6_chart
set_option maxRecDepth 20000 in
theorem ggL_law_X5_wind : GoodIn wsL_law wsX5_wind := goodIn_r _ [142, 15, 95, 96, 2, 97, 120, 121, 122, 14, 123, 39, 143, 144, 145, 146, 26, 25, 147, 148, 149, 150, 42, 151, 152, 153, 154, 155, 790, 791, 792, 793, 794, 795, 796, 797, 798, 799, 800, 801, 833, 834, 835] (by decide +kernel) (by decide +kernel)
set_option maxRecDepth 20000 in
theorem gL_law_X5_wind : GoodIn wsL_law (wsV RL 23 RX5 yX5_wind wsX5_wind) := goodIn_app (goodIn_of _ (by decide +kernel)) ggL_law_X5_wind
set_option maxRecDepth 20000 in
theorem ggL_law_X6_wind : GoodIn wsL_law wsX6_wind := goodIn_r _ [159, 70, 160, 161, 162, 5, 163, 69, 136, 137, 138, 113, 114, 115, 164, 165, 166, 167, 168, 67, 110, 111, 112, 802, 803, 804, 805, 806, 807, 808, 809, 810, 811, 812, 813, 814, 815, 816, 817, 818, 819, 820, 821, 822, 823, 824, 825, 826, 827, 828, 829, 830, 831, 832] (by decide +kernel) (by decide +kernel)
set_option maxRecDepth 20000 in
theorem gL_law_X6_wind : GoodIn wsL_law (wsV RL 27 RX6 yX6_wind wsX6_wind) := goodIn_app (goodIn_of _ (by decide +kernel)) ggL_law_X6_wind
set_option maxRecDepth 20000 in
theorem ggL_law_X5_tear : GoodIn wsL_law wsX5_tear := goodIn_r _ [172, 15, 95, 96, 2, 97, 120, 121, 122, 14, 123, 39, 143, 144, 145, 146, 26, 25, 173, 174, 175, 176, 790, 791, 792, 793, 794, 795, 796, 797, 798, 799, 800, 801, 833, 834, 835] (by decide +kernel) (by decide +kernel)
set_option maxRecDepth 20000 in
theorem gL_law_X5_tear : GoodIn wsL_law (wsV RL 28 RX5 yX5_tear wsX5_tear) := goodIn_app (goodIn_of _ (by decide +kernel)) ggL_law_X5_tear
set_option maxRecDepth 20000 in
theorem ggL_law_X6_tear : GoodIn wsL_law wsX6_tear := goodIn_r _ [180, 69, 160, 161, 162, 5, 163, 136, 137, 138, 113, 114, 115, 164, 165, 166, 167, 168, 67, 802, 803, 804, 805, 806, 807, 808, 809, 810, 811, 812, 813, 814, 815, 816, 817, 818, 819, 820, 821, 822, 823, 824, 825, 826, 827, 828, 829, 830, 831, 832] (by decide +kernel) (by decide +kernel)
set_option maxRecDepth 20000 in
theorem gL_law_X6_tear : GoodIn wsL_law (wsV RL 31 RX6 yX6_tear wsX6_tear) := goodIn_app (goodIn_of _ (by decide +kernel)) ggL_law_X6_tear
set_option maxRecDepth 20000 in
theorem ggL_law_X5_copy : GoodIn wsL_law wsX5_copy := goodIn_r _ [184, 15, 95, 96, 2, 97, 143, 144, 145, 146, 26, 25, 120, 121, 122, 14, 123, 39, 185, 186, 187, 188, 42, 189, 190, 191, 192, 151, 790, 791, 792, 793, 794, 795, 796, 797, 798, 799, 800, 801, 833, 834, 835] (by decide +kernel) (by decide +kernel)
set_option maxRecDepth 20000 in
theorem gL_law_X5_copy : GoodIn wsL_law (wsV RL 32 RX5 yX5_copy wsX5_copy) := goodIn_app (goodIn_of _ (by decide +kernel)) ggL_law_X5_copy
set_option maxRecDepth 20000 in
theorem ggL_law_X6_copy : GoodIn wsL_law wsX6_copy := goodIn_r _ [196, 69, 197, 71, 70, 136, 137, 5, 138, 113, 114, 115, 164, 165, 166, 167, 168, 67, 802, 803, 804, 805, 806, 807, 808, 809, 810, 811, 812, 813, 814, 815, 816, 817, 818, 819, 820, 821, 822, 823, 824, 825, 826, 827, 828, 829, 830, 831, 832] (by decide +kernel) (by decide +kernel)
set_option maxRecDepth 20000 in
theorem gL_law_X6_copy : GoodIn wsL_law (wsV RL 36 RX6 yX6_copy wsX6_copy) := goodIn_app (goodIn_of _ (by decide +kernel)) ggL_law_X6_copy
set_option maxRecDepth 20000 in
theorem ggL_law_X5_mean : GoodIn wsL_law wsX5_mean := goodIn_r _ [201, 15, 95, 96, 2, 97, 120, 121, 122, 14, 123, 39, 143, 144, 145, 146, 26, 25, 202, 203, 204, 205, 42, 206, 207, 208, 790, 791, 792, 793, 794, 795, 796, 797, 798, 799, 800, 801, 833, 834, 835] (by decide +kernel) (by decide +kernel)
set_option maxRecDepth 20000 in
theorem gL_law_X5_mean : GoodIn wsL_law (wsV RL 37 RX5 yX5_mean wsX5_mean) := goodIn_app (goodIn_of _ (by decide +kernel)) ggL_law_X5_mean
set_option maxRecDepth 20000 in
theorem ggL_law_X6_mean : GoodIn wsL_law wsX6_mean := goodIn_r _ [212, 70, 160, 161, 162, 5, 163, 69, 136, 137, 138, 113, 114, 115, 164, 165, 166, 167, 168, 67, 213, 214, 215, 802, 803, 804, 805, 806, 807, 808, 809, 810, 811, 812, 813, 814, 815, 816, 817, 818, 819, 820, 821, 822, 823, 824, 825, 826, 827, 828, 829, 830, 831, 832] (by decide +kernel) (by decide +kernel)
set_option maxRecDepth 20000 in
theorem gL_law_X6_mean : GoodIn wsL_law (wsV RL 40 RX6 yX6_mean wsX6_mean) := goodIn_app (goodIn_of _ (by decide +kernel)) ggL_law_X6_mean
set_option maxRecDepth 20000 in
theorem ggL_law_X5_ship : GoodIn wsL_law wsX5_ship := goodIn_r _ [219, 23, 27, 220, 221, 222, 95, 96, 2, 97, 223, 224, 225, 226, 15, 98, 99, 100, 14, 101, 38, 227, 228, 229, 22, 230, 231, 232, 233, 234, 235, 10, 11, 236, 21, 237, 238, 239, 240, 241, 242, 243, 244, 245, 246, 247, 248, 249, 250, 251, 49, 50, 51, 52, 53, 54, 55, 56, 57, 58, 59, 60, 61, 62, 252, 253, 254, 255, 256, 257, 258, 259, 260, 261, 262, 263, 264, 265, 266, 267, 268, 269, 270, 271, 272, 273, 274, 275, 276, 277, 278, 279, 280, 281, 282, 283, 284, 285, 130, 286, 287, 288, 289, 290, 291, 292, 293, 294, 295, 296, 297, 298, 299, 190, 191, 192, 790, 791, 792, 793, 794, 795, 796, 797, 798, 799, 800, 801, 841, 842, 843, 844, 845, 846, 847, 848, 849, 850, 851, 852, 853, 854, 833, 834, 835, 838, 839, 840] (by decide +kernel) (by decide +kernel)
set_option maxRecDepth 20000 in
theorem gL_law_X5_ship : GoodIn wsL_law (wsV RL 41 RX5 yX5_ship wsX5_ship) := goodIn_app (goodIn_of _ (by decide +kernel)) ggL_law_X5_ship
set_option maxRecDepth 20000 in
theorem ggL_law_X6_ship : GoodIn wsL_law wsX6_ship := goodIn_r _ [303, 68, 304, 305, 72, 73, 77, 76, 113, 114, 5, 115, 110, 111, 112, 802, 803, 804, 805, 806, 807, 808, 809, 810, 811, 812, 813, 814, 815, 816, 817, 818, 819, 820, 821, 822, 823, 824, 825, 826, 827, 828, 829, 830, 831, 832] (by decide +kernel) (by decide +kernel)
set_option maxRecDepth 20000 in
theorem gL_law_X6_ship : GoodIn wsL_law (wsV RL 44 RX6 yX6_ship wsX6_ship) := goodIn_app (goodIn_of _ (by decide +kernel)) ggL_law_X6_ship
set_option maxRecDepth 20000 in
theorem ggL_law_X5_foul : GoodIn wsL_law wsX5_foul := goodIn_r _ [309, 310, 311, 312, 313, 2, 314, 23, 315, 227, 228, 229, 22, 230, 231, 316, 317, 318, 319, 320, 321, 322, 323, 324, 325, 326, 327, 328, 329, 330, 331, 52, 95, 96, 97, 841, 842, 843, 844, 845, 846, 847, 848, 849, 850, 851, 852, 853, 854, 790, 791, 792, 793, 794, 795, 796, 797, 798, 799, 800, 801, 838, 839, 840] (by decide +kernel) (by decide +kernel)
set_option maxRecDepth 20000 in
theorem gL_law_X5_foul : GoodIn wsL_law (wsV RL 45 RX5 yX5_foul wsX5_foul) := goodIn_app (goodIn_of _ (by decide +kernel)) ggL_law_X5_foul
set_option maxRecDepth 20000 in
theorem ggL_law_X6_foul : GoodIn wsL_law wsX6_foul := goodIn_r _ [335, 78, 336, 337, 338, 5, 339, 304, 113, 114, 115, 802, 803, 804, 805, 806, 807, 808, 809, 810, 811, 812, 813, 814, 815, 816, 817, 818, 819, 820, 821, 822, 823, 824, 825, 826, 827, 828, 829, 830, 831, 832] (by decide +kernel) (by decide +kernel)
set_option maxRecDepth 20000 in
theorem gL_law_X6_foul : GoodIn wsL_law (wsV RL 49 RX6 yX6_foul wsX6_foul) := goodIn_app (goodIn_of _ (by decide +kernel)) ggL_law_X6_foul
set_option maxRecDepth 20000 in
theorem ggL_law_X5_told : GoodIn wsL_law wsX5_told := goodIn_r _ [343, 344, 345, 346, 347, 348, 349, 350, 311, 312, 313, 2, 314, 23, 315, 227, 228, 229, 22, 230, 231, 316, 317, 318, 319, 320, 321, 322, 323, 324, 325, 326, 327, 328, 329, 330, 331, 52, 841, 842, 843, 844, 845, 846, 847, 848, 849, 850, 851, 852, 853, 854, 790, 791, 792, 793, 794, 795, 796, 797, 798, 799, 800, 801, 838, 839, 840] (by decide +kernel) (by decide +kernel)
set_option maxRecDepth 20000 in
theorem gL_law_X5_told : GoodIn wsL_law (wsV RL 50 RX5 yX5_told wsX5_told) := goodIn_app (goodIn_of _ (by decide +kernel)) ggL_law_X5_told
set_option maxRecDepth 20000 in
theorem ggL_law_X6_told : GoodIn wsL_law wsX6_told := goodIn_r _ [354, 336, 337, 338, 5, 339, 304, 113, 114, 115, 355, 356, 357, 358, 72, 73, 74, 75, 76, 77, 359, 360, 361, 362, 363, 802, 803, 804, 805, 806, 807, 808, 809, 810, 811, 812, 813, 814, 815, 816, 817, 818, 819, 820, 821, 822, 823, 824, 825, 826, 827, 828, 829, 830, 831, 832] (by decide +kernel) (by decide +kernel)
set_option maxRecDepth 20000 in
theorem gL_law_X6_told : GoodIn wsL_law (wsV RL 53 RX6 yX6_told wsX6_told) := goodIn_app (goodIn_of _ (by decide +kernel)) ggL_law_X6_told
set_option maxRecDepth 20000 in
theorem ggL_law_X5_mark : GoodIn wsL_law wsX5_mark := goodIn_r _ [367, 368, 347, 369, 311, 312, 313, 2, 314, 23, 315, 227, 228, 229, 22, 230, 231, 316, 317, 318, 319, 320, 321, 322, 323, 324, 325, 326, 327, 328, 329, 330, 331, 52, 370, 371, 372, 222, 373, 248, 143, 144, 145, 146, 26, 25, 374, 375, 376, 377, 241, 378, 271, 272, 273, 379, 380, 381, 382, 383, 384, 297, 298, 207, 208, 385, 386, 387, 388, 389, 390, 391, 392, 841, 842, 843, 844, 845, 846, 847, 848, 849, 850, 851, 852, 853, 854, 790, 791, 792, 793, 794, 795, 796, 797, 798, 799, 800, 801, 838, 839, 840] (by decide +kernel) (by decide +kernel)
set_option maxRecDepth 20000 in
theorem gL_law_X5_mark : GoodIn wsL_law (wsV RL 54 RX5 yX5_mark wsX5_mark) := goodIn_app (goodIn_of _ (by decide +kernel)) ggL_law_X5_mark
set_option maxRecDepth 20000 in
theorem ggL_law_X6_mark : GoodIn wsL_law wsX6_mark := goodIn_r _ [396, 72, 80, 79, 336, 337, 338, 5, 339, 304, 113, 114, 115, 164, 165, 166, 167, 168, 67, 397, 398, 399, 400, 78, 802, 803, 804, 805, 806, 807, 808, 809, 810, 811, 812, 813, 814, 815, 816, 817, 818, 819, 820, 821, 822, 823, 824, 825, 826, 827, 828, 829, 830, 831, 832] (by decide +kernel) (by decide +kernel)
set_option maxRecDepth 20000 in
theorem gL_law_X6_mark : GoodIn wsL_law (wsV RL 57 RX6 yX6_mark wsX6_mark) := goodIn_app (goodIn_of _ (by decide +kernel)) ggL_law_X6_mark
set_option maxRecDepth 20000 in
theorem ggL_law_X5_speed : GoodIn wsL_law wsX5_speed := goodIn_r _ [404, 311, 312, 313, 2, 314, 23, 315, 227, 228, 229, 22, 230, 231, 316, 317, 318, 319, 320, 321, 322, 323, 324, 325, 326, 327, 328, 329, 330, 331, 52, 95, 96, 97, 374, 375, 376, 222, 377, 248, 241, 378, 271, 272, 273, 379, 380, 381, 382, 383, 384, 297, 298, 207, 208, 385, 386, 387, 388, 389, 390, 391, 392, 790, 791, 792, 793, 794, 795, 796, 797, 798, 799, 800, 801, 838, 839, 840, 841, 842, 843, 844, 845, 846, 847, 848, 849, 850, 851, 852, 853, 854] (by decide +kernel) (by decide +kernel)
set_option maxRecDepth 20000 in
theorem gL_law_X5_speed : GoodIn wsL_law (wsV RL 58 RX5 yX5_speed wsX5_speed) := goodIn_app (goodIn_of _ (by decide +kernel)) ggL_law_X5_speed
set_option maxRecDepth 20000 in
theorem ggL_law_X6_speed : GoodIn wsL_law wsX6_speed := goodIn_r _ [408, 336, 337, 338, 5, 339, 304, 113, 114, 115, 409, 410, 411, 397, 398, 399, 400, 72, 78, 802, 803, 804, 805, 806, 807, 808, 809, 810, 811, 812, 813, 814, 815, 816, 817, 818, 819, 820, 821, 822, 823, 824, 825, 826, 827, 828, 829, 830, 831, 832] (by decide +kernel) (by decide +kernel)
set_option maxRecDepth 20000 in
theorem gL_law_X6_speed : GoodIn wsL_law (wsV RL 62 RX6 yX6_speed wsX6_speed) := goodIn_app (goodIn_of _ (by decide +kernel)) ggL_law_X6_speed
set_option maxRecDepth 20000 in
theorem ggL_law_X5_order : GoodIn wsL_law wsX5_order := goodIn_r _ [415, 368, 416, 417, 418, 311, 312, 313, 2, 314, 23, 315, 227, 228, 229, 22, 230, 231, 316, 317, 318, 319, 320, 321, 322, 323, 324, 325, 326, 327, 328, 329, 330, 331, 52, 419, 420, 421, 95, 96, 97, 422, 423, 424, 425, 10, 11, 426, 427, 428, 429, 430, 431, 252, 253, 254, 255, 256, 257, 258, 259, 260, 261, 262, 263, 264, 265, 266, 267, 268, 269, 51, 270, 271, 272, 273, 274, 275, 276, 277, 278, 279, 280, 281, 282, 283, 284, 285, 130, 286, 287, 288, 289, 290, 291, 292, 293, 294, 295, 296, 297, 298, 299, 190, 191, 192, 841, 842, 843, 844, 845, 846, 847, 848, 849, 850, 851, 852, 853, 854, 855, 856, 857, 858, 859, 860, 790, 791, 792, 793, 794, 795, 796, 797, 798, 799, 800, 801, 838, 839, 840] (by decide +kernel) (by decide +kernel)
set_option maxRecDepth 20000 in
theorem gL_law_X5_order : GoodIn wsL_law (wsV RL 63 RX5 yX5_order wsX5_order) := goodIn_app (goodIn_of _ (by decide +kernel)) ggL_law_X5_order
set_option maxRecDepth 20000 in
theorem ggL_law_X6_order : GoodIn wsL_law wsX6_order := goodIn_r _ [435, 80, 81, 336, 337, 338, 5, 339, 304, 113, 114, 115, 409, 410, 411, 802, 803, 804, 805, 806, 807, 808, 809, 810, 811, 812, 813, 814, 815, 816, 817, 818, 819, 820, 821, 822, 823, 824, 825, 826, 827, 828, 829, 830, 831, 832] (by decide +kernel) (by decide +kernel)
set_option maxRecDepth 20000 in
theorem gL_law_X6_order : GoodIn wsL_law (wsV RL 67 RX6 yX6_order wsX6_order) := goodIn_app (goodIn_of _ (by decide +kernel)) ggL_law_X6_order
set_option maxRecDepth 20000 in
theorem ggL_law_X5_home : GoodIn wsL_law wsX5_home := goodIn_r _ [439, 27, 28, 29, 223, 224, 225, 2, 226, 15, 95, 96, 97, 98, 99, 100, 14, 101, 38, 790, 791, 792, 793, 794, 795, 796, 797, 798, 799, 800, 801, 833, 834, 835] (by decide +kernel) (by decide +kernel)
set_option maxRecDepth 20000 in
theorem gL_law_X5_home : GoodIn wsL_law (wsV RL 68 RX5 yX5_home wsX5_home) := goodIn_app (goodIn_of _ (by decide +kernel)) ggL_law_X5_home
set_option maxRecDepth 20000 in
theorem ggL_law_X6_home : GoodIn wsL_law wsX6_home := goodIn_r _ [443, 68, 305, 444, 363, 110, 111, 5, 112, 113, 114, 115, 802, 803, 804, 805, 806, 807, 808, 809, 810, 811, 812, 813, 814, 815, 816, 817, 818, 819, 820, 821, 822, 823, 824, 825, 826, 827, 828, 829, 830, 831, 832] (by decide +kernel) (by decide +kernel)
set_option maxRecDepth 20000 in
theorem gL_law_X6_home : GoodIn wsL_law (wsV RL 71 RX6 yX6_home wsX6_home) := goodIn_app (goodIn_of _ (by decide +kernel)) ggL_law_X6_home
set_option maxRecDepth 20000 in
theorem ggL_law_X5_run : GoodIn wsL_law wsX5_run := goodIn_r _ [448, 449, 27, 23, 315, 95, 96, 2, 97, 450, 451, 452, 453, 227, 228, 229, 22, 230, 231, 316, 317, 318, 319, 320, 321, 322, 323, 324, 325, 326, 327, 328, 329, 330, 331, 52, 454, 455, 456, 222, 457, 243, 458, 459, 460, 461, 15, 345, 347, 346, 462, 463, 464, 465, 466, 467, 468, 202, 203, 204, 14, 205, 39, 42, 469, 470, 471, 472, 237, 473, 249, 474, 240, 475, 476, 207, 208, 477, 478, 479, 418, 480, 426, 427, 428, 429, 430, 374, 375, 376, 377, 248, 241, 378, 271, 272, 273, 379, 380, 381, 382, 383, 384, 297, 298, 385, 386, 387, 388, 389, 390, 391, 392, 481, 482, 483, 484, 485, 486, 487, 488, 489, 490, 491, 492, 99, 100, 101, 38, 493, 494, 495, 496, 369, 28, 348, 349, 497, 498, 499, 500, 29, 790, 791, 792, 793, 794, 795, 796, 797, 798, 799, 800, 801, 838, 839, 840, 841, 842, 843, 844, 845, 846, 847, 848, 849, 850, 851, 852, 853, 854, 833, 834, 835, 855, 856, 857, 858, 859, 860] (by decide +kernel) (by decide +kernel)
set_option maxRecDepth 20000 in
theorem gL_law_X5_run : GoodIn wsL_law (wsV RL 72 RX5 yX5_run wsX5_run) := goodIn_app (goodIn_of _ (by decide +kernel)) ggL_law_X5_run
set_option maxRecDepth 20000 in
theorem ggL_law_X6_run : GoodIn wsL_law wsX6_run := goodIn_r _ [504, 305, 505, 304, 76, 113, 114, 5, 115, 506, 507, 508, 509, 510, 511, 512, 513, 73, 74, 75, 79, 444, 514, 515, 516, 517, 80, 81, 518, 519, 520, 521, 69, 70, 397, 398, 399, 400, 72, 78, 522, 523, 524, 525, 526, 527, 528, 68, 802, 803, 804, 805, 806, 807, 808, 809, 810, 811, 812, 813, 814, 815, 816, 817, 818, 819, 820, 821, 822, 823, 824, 825, 826, 827, 828, 829, 830, 831, 832] (by decide +kernel) (by decide +kernel)
set_option maxRecDepth 20000 in
theorem gL_law_X6_run : GoodIn wsL_law (wsV RL 75 RX6 yX6_run wsX6_run) := goodIn_app (goodIn_of _ (by decide +kernel)) ggL_law_X6_run
set_option maxRecDepth 20000 in
theorem ggL_law_X5_first : GoodIn wsL_law wsX5_first := goodIn_r _ [532, 533, 534, 535, 536, 2, 537, 23, 315, 227, 228, 229, 22, 230, 231, 316, 317, 318, 319, 320, 321, 322, 323, 324, 325, 326, 327, 328, 329, 330, 331, 52, 454, 455, 456, 222, 457, 243, 538, 539, 540, 541, 244, 247, 841, 842, 843, 844, 845, 846, 847, 848, 849, 850, 851, 852, 853, 854, 790, 791, 792, 793, 794, 795, 796, 797, 798, 799, 800, 801, 838, 839, 840] (by decide +kernel) (by decide +kernel)
set_option maxRecDepth 20000 in
theorem gL_law_X5_first : GoodIn wsL_law (wsV RL 76 RX5 yX5_first wsX5_first) := goodIn_app (goodIn_of _ (by decide +kernel)) ggL_law_X5_first
set_option maxRecDepth 20000 in
theorem ggL_law_X6_first : GoodIn wsL_law wsX6_first := goodIn_r _ [545, 546, 547, 548, 5, 549, 304, 76, 359, 360, 361, 362, 363, 802, 803, 804, 805, 806, 807, 808, 809, 810, 811, 812, 813, 814, 815, 816, 817, 818, 819, 820, 821, 822, 823, 824, 825, 826, 827, 828, 829, 830, 831, 832] (by decide +kernel) (by decide +kernel)
set_option maxRecDepth 20000 in
theorem gL_law_X6_first : GoodIn wsL_law (wsV RL 80 RX6 yX6_first wsX6_first) := goodIn_app (goodIn_of _ (by decide +kernel)) ggL_law_X6_first
set_option maxRecDepth 20000 in
theorem ggL_law_X5_least : GoodIn wsL_law wsX5_least := goodIn_r _ [553, 554, 19, 15, 311, 312, 313, 2, 314, 23, 315, 227, 228, 229, 22, 230, 231, 316, 317, 318, 319, 320, 321, 322, 323, 324, 325, 326, 327, 328, 329, 330, 331, 52, 223, 224, 225, 226, 95, 96, 97, 98, 99, 100, 14, 101, 38, 555, 556, 557, 18, 558, 46, 47, 559, 560, 561, 562, 563, 564, 565, 566, 567, 489, 490, 491, 492, 568, 569, 570, 571, 271, 272, 273, 482, 483, 463, 464, 465, 466, 467, 468, 572, 203, 204, 205, 39, 42, 573, 375, 376, 222, 377, 248, 241, 378, 379, 380, 381, 382, 383, 384, 297, 298, 207, 208, 385, 386, 387, 388, 389, 390, 391, 392, 574, 575, 576, 577, 578, 579, 580, 790, 791, 792, 793, 794, 795, 796, 797, 798, 799, 800, 801, 838, 839, 840, 833, 834, 835, 836, 837, 841, 842, 843, 844, 845, 846, 847, 848, 849, 850, 851, 852, 853, 854] (by decide +kernel) (by decide +kernel)
set_option maxRecDepth 20000 in
theorem gL_law_X5_least : GoodIn wsL_law (wsV RL 81 RX5 yX5_least wsX5_least) := goodIn_app (goodIn_of _ (by decide +kernel)) ggL_law_X5_least
set_option maxRecDepth 20000 in
theorem ggL_law_X6_least : GoodIn wsL_law wsX6_least := goodIn_r _ [584, 68, 585, 84, 85, 336, 337, 338, 5, 339, 304, 113, 114, 115, 110, 111, 112, 525, 526, 527, 528, 586, 587, 588, 589, 522, 523, 524, 518, 519, 520, 521, 69, 70, 397, 398, 399, 400, 72, 78, 802, 803, 804, 805, 806, 807, 808, 809, 810, 811, 812, 813, 814, 815, 816, 817, 818, 819, 820, 821, 822, 823, 824, 825, 826, 827, 828, 829, 830, 831, 832] (by decide +kernel) (by decide +kernel)
set_option maxRecDepth 20000 in
theorem gL_law_X6_least : GoodIn wsL_law (wsV RL 84 RX6 yX6_least wsX6_least) := goodIn_app (goodIn_of _ (by decide +kernel)) ggL_law_X6_least
set_option maxRecDepth 20000 in
theorem ggL_law_X5_sight : GoodIn wsL_law wsX5_sight := goodIn_r _ [593, 449, 30, 594, 595, 596, 597, 311, 312, 313, 2, 314, 23, 315, 227, 228, 229, 22, 230, 231, 316, 317, 318, 319, 320, 321, 322, 323, 324, 325, 326, 327, 328, 329, 330, 331, 52, 95, 96, 97, 598, 599, 600, 222, 601, 602, 603, 604, 605, 238, 606, 607, 475, 476, 608, 609, 610, 611, 10, 11, 612, 613, 252, 253, 254, 255, 256, 257, 258, 259, 260, 261, 262, 263, 264, 265, 266, 267, 268, 269, 51, 270, 271, 272, 273, 274, 275, 276, 277, 278, 279, 280, 281, 282, 283, 284, 285, 130, 286, 287, 288, 289, 290, 291, 292, 293, 294, 295, 296, 297, 298, 299, 190, 191, 192, 790, 791, 792, 793, 794, 795, 796, 797, 798, 799, 800, 801, 841, 842, 843, 844, 845, 846, 847, 848, 849, 850, 851, 852, 853, 854, 861, 862, 838, 839, 840] (by decide +kernel) (by decide +kernel)
set_option maxRecDepth 20000 in
theorem gL_law_X5_sight : GoodIn wsL_law (wsV RL 85 RX5 yX5_sight wsX5_sight) := goodIn_app (goodIn_of _ (by decide +kernel)) ggL_law_X5_sight
set_option maxRecDepth 20000 in
theorem ggL_law_X6_sight : GoodIn wsL_law wsX6_sight := goodIn_r _ [617, 505, 618, 86, 88, 87, 336, 337, 338, 5, 339, 304, 113, 114, 115, 110, 111, 112, 802, 803, 804, 805, 806, 807, 808, 809, 810, 811, 812, 813, 814, 815, 816, 817, 818, 819, 820, 821, 822, 823, 824, 825, 826, 827, 828, 829, 830, 831, 832] (by decide +kernel) (by decide +kernel)
set_option maxRecDepth 20000 in
theorem gL_law_X6_sight : GoodIn wsL_law (wsV RL 88 RX6 yX6_sight wsX6_sight) := goodIn_app (goodIn_of _ (by decide +kernel)) ggL_law_X6_sight
set_option maxRecDepth 20000 in
theorem ggL_law_X5_distance : GoodIn wsL_law wsX5_distance := goodIn_r _ [622, 449, 311, 312, 313, 2, 314, 23, 315, 227, 228, 229, 22, 230, 231, 316, 317, 318, 319, 320, 321, 322, 323, 324, 325, 326, 327, 328, 329, 330, 331, 52, 95, 96, 97, 623, 624, 625, 626, 627, 628, 384, 297, 272, 298, 629, 630, 631, 222, 632, 238, 606, 607, 475, 476, 633, 603, 604, 605, 634, 635, 636, 637, 28, 381, 382, 383, 638, 271, 273, 639, 640, 641, 642, 790, 791, 792, 793, 794, 795, 796, 797, 798, 799, 800, 801, 838, 839, 840, 861, 862, 841, 842, 843, 844, 845, 846, 847, 848, 849, 850, 851, 852, 853, 854] (by decide +kernel) (by decide +kernel)
set_option maxRecDepth 20000 in
theorem gL_law_X5_distance : GoodIn wsL_law (wsV RL 89 RX5 yX5_distance wsX5_distance) := goodIn_app (goodIn_of _ (by decide +kernel)) ggL_law_X5_distance
set_option maxRecDepth 20000 in
theorem ggL_law_X6_distance : GoodIn wsL_law wsX6_distance := goodIn_r _ [646, 505, 336, 337, 338, 5, 339, 304, 113, 114, 115, 647, 648, 649, 650, 618, 86, 88, 87, 651, 652, 653, 654, 444, 655, 656, 657, 802, 803, 804, 805, 806, 807, 808, 809, 810, 811, 812, 813, 814, 815, 816, 817, 818, 819, 820, 821, 822, 823, 824, 825, 826, 827, 828, 829, 830, 831, 832] (by decide +kernel) (by decide +kernel)
set_option maxRecDepth 20000 in
theorem gL_law_X6_distance : GoodIn wsL_law (wsV RL 93 RX6 yX6_distance wsX6_distance) := goodIn_app (goodIn_of _ (by decide +kernel)) ggL_law_X6_distance
set_option maxRecDepth 20000 in
theorem ggL_law_X5_ahead : GoodIn wsL_law wsX5_ahead := goodIn_r _ [661, 449, 311, 312, 313, 2, 314, 23, 315, 227, 228, 229, 22, 230, 231, 316, 317, 318, 319, 320, 321, 322, 323, 324, 325, 326, 327, 328, 329, 330, 331, 52, 95, 96, 97, 662, 663, 664, 222, 665, 666, 630, 631, 632, 238, 606, 607, 475, 476, 602, 603, 604, 605, 623, 624, 625, 626, 627, 628, 384, 297, 272, 298, 629, 633, 634, 635, 636, 637, 28, 381, 382, 383, 638, 271, 273, 639, 640, 641, 642, 790, 791, 792, 793, 794, 795, 796, 797, 798, 799, 800, 801, 838, 839, 840, 841, 842, 843, 844, 845, 846, 847, 848, 849, 850, 851, 852, 853, 854, 861, 862] (by decide +kernel) (by decide +kernel)
set_option maxRecDepth 20000 in
theorem gL_law_X5_ahead : GoodIn wsL_law (wsV RL 94 RX5 yX5_ahead wsX5_ahead) := goodIn_app (goodIn_of _ (by decide +kernel)) ggL_law_X5_ahead
set_option maxRecDepth 20000 in
theorem ggL_law_X6_ahead : GoodIn wsL_law wsX6_ahead := goodIn_r _ [670, 505, 336, 337, 338, 5, 339, 304, 113, 114, 115, 647, 648, 649, 650, 618, 86, 88, 87, 651, 652, 653, 654, 444, 655, 656, 657, 802, 803, 804, 805, 806, 807, 808, 809, 810, 811, 812, 813, 814, 815, 816, 817, 818, 819, 820, 821, 822, 823, 824, 825, 826, 827, 828, 829, 830, 831, 832] (by decide +kernel) (by decide +kernel)
set_option maxRecDepth 20000 in
theorem gL_law_X6_ahead : GoodIn wsL_law (wsV RL 97 RX6 yX6_ahead wsX6_ahead) := goodIn_app (goodIn_of _ (by decide +kernel)) ggL_law_X6_ahead
set_option maxRecDepth 20000 in
theorem ggL_law_X5_charter : GoodIn wsL_law wsX5_charter := goodIn_r _ [674, 449, 675, 676, 311, 312, 313, 2, 314, 23, 315, 227, 228, 229, 22, 230, 231, 316, 317, 318, 319, 320, 321, 322, 323, 324, 325, 326, 327, 328, 329, 330, 331, 52, 95, 96, 97, 841, 842, 843, 844, 845, 846, 847, 848, 849, 850, 851, 852, 853, 854, 790, 791, 792, 793, 794, 795, 796, 797, 798, 799, 800, 801, 838, 839, 840] (by decide +kernel) (by decide +kernel)
set_option maxRecDepth 20000 in
theorem gL_law_X5_charter : GoodIn wsL_law (wsV RL 98 RX5 yX5_charter wsX5_charter) := goodIn_app (goodIn_of _ (by decide +kernel)) ggL_law_X5_charter
set_option maxRecDepth 20000 in
theorem ggL_law_X6_charter : GoodIn wsL_law wsX6_charter := goodIn_r _ [680, 505, 82, 83, 336, 337, 338, 5, 339, 304, 113, 114, 115, 802, 803, 804, 805, 806, 807, 808, 809, 810, 811, 812, 813, 814, 815, 816, 817, 818, 819, 820, 821, 822, 823, 824, 825, 826, 827, 828, 829, 830, 831, 832] (by decide +kernel) (by decide +kernel)
set_option maxRecDepth 20000 in
theorem gL_law_X6_charter : GoodIn wsL_law (wsV RL 101 RX6 yX6_charter wsX6_charter) := goodIn_app (goodIn_of _ (by decide +kernel)) ggL_law_X6_charter
set_option maxRecDepth 20000 in
theorem ggL_law_X5_freight : GoodIn wsL_law wsX5_freight := goodIn_r _ [684, 676, 350, 675, 311, 312, 313, 2, 314, 23, 315, 227, 228, 229, 22, 230, 231, 316, 317, 318, 319, 320, 321, 322, 323, 324, 325, 326, 327, 328, 329, 330, 331, 52, 454, 455, 456, 222, 457, 243, 534, 535, 536, 537, 538, 539, 540, 541, 244, 247, 841, 842, 843, 844, 845, 846, 847, 848, 849, 850, 851, 852, 853, 854, 790, 791, 792, 793, 794, 795, 796, 797, 798, 799, 800, 801, 838, 839, 840] (by decide +kernel) (by decide +kernel)
set_option maxRecDepth 20000 in
theorem gL_law_X5_freight : GoodIn wsL_law (wsV RL 102 RX5 yX5_freight wsX5_freight) := goodIn_app (goodIn_of _ (by decide +kernel)) ggL_law_X5_freight
set_option maxRecDepth 20000 in
theorem ggL_law_X6_freight : GoodIn wsL_law wsX6_freight := goodIn_r _ [688, 76, 77, 82, 83, 336, 337, 338, 5, 339, 304, 113, 114, 115, 546, 547, 548, 549, 359, 360, 361, 362, 363, 802, 803, 804, 805, 806, 807, 808, 809, 810, 811, 812, 813, 814, 815, 816, 817, 818, 819, 820, 821, 822, 823, 824, 825, 826, 827, 828, 829, 830, 831, 832] (by decide +kernel) (by decide +kernel)
set_option maxRecDepth 20000 in
theorem gL_law_X6_freight : GoodIn wsL_law (wsV RL 105 RX6 yX6_freight wsX6_freight) := goodIn_app (goodIn_of _ (by decide +kernel)) ggL_law_X6_freight
set_option maxRecDepth 20000 in
theorem ggL_law_X5_market : GoodIn wsL_law wsX5_market := goodIn_r _ [692, 31, 32, 95, 96, 2, 97, 790, 791, 792, 793, 794, 795, 796, 797, 798, 799, 800, 801] (by decide +kernel) (by decide +kernel)
set_option maxRecDepth 20000 in
theorem gL_law_X5_market : GoodIn wsL_law (wsV RL 106 RX5 yX5_market wsX5_market) := goodIn_app (goodIn_of _ (by decide +kernel)) ggL_law_X5_market
set_option maxRecDepth 20000 in
theorem ggL_law_X6_market : GoodIn wsL_law wsX6_market := goodIn_r _ [696, 89, 90, 113, 114, 5, 115, 802, 803, 804, 805, 806, 807, 808, 809, 810, 811, 812, 813, 814, 815, 816, 817, 818, 819, 820, 821, 822, 823, 824, 825, 826, 827, 828, 829, 830, 831, 832] (by decide +kernel) (by decide +kernel)
set_option maxRecDepth 20000 in
theorem gL_law_X6_market : GoodIn wsL_law (wsV RL 109 RX6 yX6_market wsX6_market) := goodIn_app (goodIn_of _ (by decide +kernel)) ggL_law_X6_market
set_option maxRecDepth 20000 in
theorem ggL_law_X5_sale : GoodIn wsL_law wsX5_sale := goodIn_r _ [700, 33, 311, 312, 313, 2, 314, 23, 315, 227, 228, 229, 22, 230, 231, 316, 317, 318, 319, 320, 321, 322, 323, 324, 325, 326, 327, 328, 329, 330, 331, 52, 454, 455, 456, 222, 457, 243, 701, 702, 703, 704, 350, 705, 706, 707, 708, 31, 32, 638, 271, 272, 273, 709, 710, 711, 712, 244, 247, 790, 791, 792, 793, 794, 795, 796, 797, 798, 799, 800, 801, 838, 839, 840, 841, 842, 843, 844, 845, 846, 847, 848, 849, 850, 851, 852, 853, 854] (by decide +kernel) (by decide +kernel)
set_option maxRecDepth 20000 in
theorem gL_law_X5_sale : GoodIn wsL_law (wsV RL 110 RX5 yX5_sale wsX5_sale) := goodIn_app (goodIn_of _ (by decide +kernel)) ggL_law_X5_sale
set_option maxRecDepth 20000 in
theorem ggL_law_X6_sale : GoodIn wsL_law wsX6_sale := goodIn_r _ [716, 76, 77, 717, 336, 337, 338, 5, 339, 304, 113, 114, 115, 718, 719, 720, 721, 89, 90, 359, 360, 361, 362, 363, 802, 803, 804, 805, 806, 807, 808, 809, 810, 811, 812, 813, 814, 815, 816, 817, 818, 819, 820, 821, 822, 823, 824, 825, 826, 827, 828, 829, 830, 831, 832] (by decide +kernel) (by decide +kernel)
set_option maxRecDepth 20000 in
theorem gL_law_X6_sale : GoodIn wsL_law (wsV RL 113 RX6 yX6_sale wsX6_sale) := goodIn_app (goodIn_of _ (by decide +kernel)) ggL_law_X6_sale
set_option maxRecDepth 20000 in
theorem ggL_law_X5_meanPrice : GoodIn wsL_law wsX5_meanPrice := goodIn_r _ [725, 23, 315, 350, 227, 228, 229, 22, 230, 231, 316, 317, 318, 319, 320, 321, 322, 323, 324, 325, 326, 327, 328, 329, 330, 331, 52, 454, 455, 456, 222, 457, 243, 701, 702, 703, 2, 704, 705, 706, 707, 708, 31, 32, 638, 271, 272, 273, 709, 710, 711, 712, 244, 247, 143, 144, 145, 146, 26, 25, 790, 791, 792, 793, 794, 795, 796, 797, 798, 799, 800, 801, 841, 842, 843, 844, 845, 846, 847, 848, 849, 850, 851, 852, 853, 854, 838, 839, 840] (by decide +kernel) (by decide +kernel)
set_option maxRecDepth 20000 in
theorem gL_law_X5_meanPrice : GoodIn wsL_law (wsV RL 114 RX5 yX5_meanPrice wsX5_meanPrice) := goodIn_app (goodIn_of _ (by decide +kernel)) ggL_law_X5_meanPrice
set_option maxRecDepth 20000 in
theorem ggL_law_X6_meanPrice : GoodIn wsL_law wsX6_meanPrice := goodIn_r _ [729, 304, 76, 77, 718, 719, 720, 5, 721, 89, 90, 359, 360, 361, 362, 363, 164, 165, 166, 167, 168, 67, 802, 803, 804, 805, 806, 807, 808, 809, 810, 811, 812, 813, 814, 815, 816, 817, 818, 819, 820, 821, 822, 823, 824, 825, 826, 827, 828, 829, 830, 831, 832] (by decide +kernel) (by decide +kernel)
set_option maxRecDepth 20000 in
theorem gL_law_X6_meanPrice : GoodIn wsL_law (wsV RL 117 RX6 yX6_meanPrice wsX6_meanPrice) := goodIn_app (goodIn_of _ (by decide +kernel)) ggL_law_X6_meanPrice
set_option maxRecDepth 20000 in
theorem ggL_law_X5_asked : GoodIn wsL_law wsX5_asked := goodIn_r _ [733, 33, 790, 791, 792, 793, 794, 795, 796, 797, 798, 799, 800, 801] (by decide +kernel) (by decide +kernel)
set_option maxRecDepth 20000 in
theorem gL_law_X5_asked : GoodIn wsL_law (wsV RL 118 RX5 yX5_asked wsX5_asked) := goodIn_app (goodIn_of _ (by decide +kernel)) ggL_law_X5_asked
set_option maxRecDepth 20000 in
theorem ggL_law_X6_asked : GoodIn wsL_law wsX6_asked := goodIn_r _ [737, 717, 802, 803, 804, 805, 806, 807, 808, 809, 810, 811, 812, 813, 814, 815, 816, 817, 818, 819, 820, 821, 822, 823, 824, 825, 826, 827, 828, 829, 830, 831, 832] (by decide +kernel) (by decide +kernel)
set_option maxRecDepth 20000 in
theorem gL_law_X6_asked : GoodIn wsL_law (wsV RL 122 RX6 yX6_asked wsX6_asked) := goodIn_app (goodIn_of _ (by decide +kernel)) ggL_law_X6_asked
set_option maxRecDepth 20000 in
theorem ggL_law_X5_count : GoodIn wsL_law wsX5_count := goodIn_r _ [741, 23, 27, 15, 30, 227, 228, 229, 22, 230, 231, 742, 743, 744, 14, 745, 39, 450, 451, 452, 2, 453, 315, 316, 317, 318, 319, 320, 321, 322, 323, 324, 325, 326, 327, 328, 329, 330, 331, 52, 454, 455, 456, 222, 457, 243, 790, 791, 792, 793, 794, 795, 796, 797, 798, 799, 800, 801, 838, 839, 840, 833, 834, 835, 841, 842, 843, 844, 845, 846, 847, 848, 849, 850, 851, 852, 853, 854] (by decide +kernel) (by decide +kernel)
set_option maxRecDepth 20000 in
theorem gL_law_X5_count : GoodIn wsL_law (wsV RL 123 RX5 yX5_count wsX5_count) := goodIn_app (goodIn_of _ (by decide +kernel)) ggL_law_X5_count
set_option maxRecDepth 20000 in
theorem ggL_law_X6_count : GoodIn wsL_law wsX6_count := goodIn_r _ [749, 113, 114, 5, 115, 750, 751, 752, 753, 69, 304, 305, 618, 506, 507, 508, 509, 76, 802, 803, 804, 805, 806, 807, 808, 809, 810, 811, 812, 813, 814, 815, 816, 817, 818, 819, 820, 821, 822, 823, 824, 825, 826, 827, 828, 829, 830, 831, 832] (by decide +kernel) (by decide +kernel)
set_option maxRecDepth 20000 in
theorem gL_law_X6_count : GoodIn wsL_law (wsV RL 126 RX6 yX6_count wsX6_count) := goodIn_app (goodIn_of _ (by decide +kernel)) ggL_law_X6_count
set_option maxRecDepth 20000 in
theorem ggL_law_X5_finding : GoodIn wsL_law wsX5_finding := goodIn_r _ [757, 26, 790, 791, 792, 793, 794, 795, 796, 797, 798, 799, 800, 801] (by decide +kernel) (by decide +kernel)
set_option maxRecDepth 20000 in
theorem gL_law_X5_finding : GoodIn wsL_law (wsV RL 127 RX5 yX5_finding wsX5_finding) := goodIn_app (goodIn_of _ (by decide +kernel)) ggL_law_X5_finding
set_option maxRecDepth 20000 in
theorem ggL_law_X6_finding : GoodIn wsL_law wsX6_finding := goodIn_r _ [761, 168, 802, 803, 804, 805, 806, 807, 808, 809, 810, 811, 812, 813, 814, 815, 816, 817, 818, 819, 820, 821, 822, 823, 824, 825, 826, 827, 828, 829, 830, 831, 832] (by decide +kernel) (by decide +kernel)
set_option maxRecDepth 20000 in
theorem gL_law_X6_finding : GoodIn wsL_law (wsV RL 130 RX6 yX6_finding wsX6_finding) := goodIn_app (goodIn_of _ (by decide +kernel)) ggL_law_X6_finding
set_option maxRecDepth 20000 in
theorem ggL_law_X5_findings : GoodIn wsL_law wsX5_findings := goodIn_r _ [765, 25, 790, 791, 792, 793, 794, 795, 796, 797, 798, 799, 800, 801] (by decide +kernel) (by decide +kernel)
set_option maxRecDepth 20000 in
theorem gL_law_X5_findings : GoodIn wsL_law (wsV RL 131 RX5 yX5_findings wsX5_findings) := goodIn_app (goodIn_of _ (by decide +kernel)) ggL_law_X5_findings
set_option maxRecDepth 20000 in
theorem ggL_law_X6_findings : GoodIn wsL_law wsX6_findings := goodIn_r _ [769, 67, 113, 114, 5, 115, 802, 803, 804, 805, 806, 807, 808, 809, 810, 811, 812, 813, 814, 815, 816, 817, 818, 819, 820, 821, 822, 823, 824, 825, 826, 827, 828, 829, 830, 831, 832] (by decide +kernel) (by decide +kernel)
set_option maxRecDepth 20000 in
theorem gL_law_X6_findings : GoodIn wsL_law (wsV RL 134 RX6 yX6_findings wsX6_findings) := goodIn_app (goodIn_of _ (by decide +kernel)) ggL_law_X6_findings
set_option maxRecDepth 20000 in
theorem ggL_law_X5_digest : GoodIn wsL_law wsX5_digest := goodIn_r _ [773, 774, 775, 23, 15, 776, 739, 740, 2, 741, 27, 30, 227, 228, 229, 22, 230, 231, 742, 743, 744, 14, 745, 39, 450, 451, 452, 453, 315, 316, 317, 318, 319, 320, 321, 322, 323, 324, 325, 326, 327, 328, 329, 330, 331, 52, 454, 455, 456, 222, 457, 243, 777, 341, 342, 343, 344, 345, 346, 347, 348, 349, 350, 311, 312, 313, 314, 778, 779, 780, 781, 782, 151, 121, 122, 123, 96, 97, 783, 148, 149, 150, 42, 790, 791, 792, 793, 794, 795, 796, 797, 798, 799, 800, 801, 838, 839, 840, 833, 834, 835, 841, 842, 843, 844, 845, 846, 847, 848, 849, 850, 851, 852, 853, 854] (by decide +kernel) (by decide +kernel)
set_option maxRecDepth 20000 in
theorem gL_law_X5_digest : GoodIn wsL_law (wsV RL 135 RX5 yX5_digest wsX5_digest) := goodIn_app (goodIn_of _ (by decide +kernel)) ggL_law_X5_digest
set_option maxRecDepth 20000 in
theorem ggL_law_X6_digest : GoodIn wsL_law wsX6_digest := goodIn_r _ [787, 788, 789, 304, 69, 70, 750, 751, 752, 5, 753, 305, 618, 506, 507, 508, 509, 76, 355, 356, 357, 358, 72, 73, 74, 75, 77, 359, 360, 361, 362, 363, 802, 803, 804, 805, 806, 807, 808, 809, 810, 811, 812, 813, 814, 815, 816, 817, 818, 819, 820, 821, 822, 823, 824, 825, 826, 827, 828, 829, 830, 831, 832] (by decide +kernel) (by decide +kernel)
set_option maxRecDepth 20000 in
theorem gL_law_X6_digest : GoodIn wsL_law (wsV RL 138 RX6 yX6_digest wsX6_digest) := goodIn_app (goodIn_of _ (by decide +kernel)) ggL_law_X6_digest
theorem dL_law_0 : decode cL_law 0 = .ok (.new 7, 3) := by decide +kernel
theorem dL_law_3 : decode cL_law 3 = .ok (.dup, 1) := by decide +kernel
theorem dL_law_4 : decode cL_law 4 = .ok (.invokespecial 9, 3) := by decide +kernel
theorem dL_law_7 : decode cL_law 7 = .ok (.astore_n 1, 1) := by decide +kernel
theorem dL_law_8 : decode cL_law 8 = .ok (.new 10, 3) := by decide +kernel
theorem dL_law_11 : decode cL_law 11 = .ok (.dup, 1) := by decide +kernel
theorem dL_law_12 : decode cL_law 12 = .ok (.invokespecial 12, 3) := by decide +kernel
theorem dL_law_15 : decode cL_law 15 = .ok (.astore_n 2, 1) := by decide +kernel
theorem dL_law_16 : decode cL_law 16 = .ok (.iconst 0, 1) := by decide +kernel
theorem dL_law_17 : decode cL_law 17 = .ok (.istore_n 3, 1) := by decide +kernel
theorem dL_law_18 : decode cL_law 18 = .ok (.iload_n 3, 1) := by decide +kernel
theorem dL_law_19 : decode cL_law 19 = .ok (.aload_n 0, 1) := by decide +kernel
theorem dL_law_20 : decode cL_law 20 = .ok (.arraylength, 1) := by decide +kernel
theorem dL_law_21 : decode cL_law 21 = .ok (.bipush 8, 2) := by decide +kernel
theorem dL_law_23 : decode cL_law 23 = .ok (.isub, 1) := by decide +kernel
theorem dL_law_24 : decode cL_law 24 = .ok (.if_icmp .gt 1141, 3) := by decide +kernel
theorem dL_law_27 : decode cL_law 27 = .ok (.aload_n 0, 1) := by decide +kernel
theorem dL_law_28 : decode cL_law 28 = .ok (.iload_n 3, 1) := by decide +kernel
theorem dL_law_29 : decode cL_law 29 = .ok (.iaload, 1) := by decide +kernel
theorem dL_law_30 : decode cL_law 30 = .ok (.bipush 31, 2) := by decide +kernel
theorem dL_law_32 : decode cL_law 32 = .ok (.iand, 1) := by decide +kernel
theorem dL_law_33 : decode cL_law 33 = .ok (.tableswitch 1126 0 28 #[131, 180, 203, 246, 269, 332, 355, 398, 431, 464, 497, 550, 637, 670, 693, 706, 759, 802, 861, 904, 947, 970, 1003, 1026, 1039, 1053, 1076, 1089, 1112], 131) := by decide +kernel
theorem dL_law_164 : decode cL_law 164 = .ok (.aload_n 1, 1) := by decide +kernel
theorem dL_law_165 : decode cL_law 165 = .ok (.aload_n 0, 1) := by decide +kernel
theorem dL_law_166 : decode cL_law 166 = .ok (.iload_n 3, 1) := by decide +kernel
theorem dL_law_167 : decode cL_law 167 = .ok (.iconst 1, 1) := by decide +kernel
theorem dL_law_168 : decode cL_law 168 = .ok (.iadd, 1) := by decide +kernel
theorem dL_law_169 : decode cL_law 169 = .ok (.iaload, 1) := by decide +kernel
theorem dL_law_170 : decode cL_law 170 = .ok (.aload_n 0, 1) := by decide +kernel
theorem dL_law_171 : decode cL_law 171 = .ok (.iload_n 3, 1) := by decide +kernel
theorem dL_law_172 : decode cL_law 172 = .ok (.iconst 2, 1) := by decide +kernel
theorem dL_law_173 : decode cL_law 173 = .ok (.iadd, 1) := by decide +kernel
theorem dL_law_174 : decode cL_law 174 = .ok (.iaload, 1) := by decide +kernel
theorem dL_law_175 : decode cL_law 175 = .ok (.ifCond .eq 7, 3) := by decide +kernel
theorem dL_law_178 : decode cL_law 178 = .ok (.iconst 1, 1) := by decide +kernel
theorem dL_law_179 : decode cL_law 179 = .ok (.goto 4, 3) := by decide +kernel
theorem dL_law_182 : decode cL_law 182 = .ok (.iconst 0, 1) := by decide +kernel
theorem dL_law_183 : decode cL_law 183 = .ok (.invokevirtual 13, 3) := by decide +kernel
theorem dL_law_186 : decode cL_law 186 = .ok (.aload_n 2, 1) := by decide +kernel
theorem dL_law_187 : decode cL_law 187 = .ok (.aload_n 0, 1) := by decide +kernel
theorem dL_law_188 : decode cL_law 188 = .ok (.iload_n 3, 1) := by decide +kernel
theorem dL_law_189 : decode cL_law 189 = .ok (.iconst 1, 1) := by decide +kernel
theorem dL_law_190 : decode cL_law 190 = .ok (.iadd, 1) := by decide +kernel
theorem dL_law_191 : decode cL_law 191 = .ok (.iaload, 1) := by decide +kernel
theorem dL_law_192 : decode cL_law 192 = .ok (.aload_n 0, 1) := by decide +kernel
theorem dL_law_193 : decode cL_law 193 = .ok (.iload_n 3, 1) := by decide +kernel
theorem dL_law_194 : decode cL_law 194 = .ok (.iconst 2, 1) := by decide +kernel
theorem dL_law_195 : decode cL_law 195 = .ok (.iadd, 1) := by decide +kernel
theorem dL_law_196 : decode cL_law 196 = .ok (.iaload, 1) := by decide +kernel
theorem dL_law_197 : decode cL_law 197 = .ok (.ifCond .eq 7, 3) := by decide +kernel
theorem dL_law_200 : decode cL_law 200 = .ok (.iconst 1, 1) := by decide +kernel
theorem dL_law_201 : decode cL_law 201 = .ok (.goto 4, 3) := by decide +kernel
theorem dL_law_204 : decode cL_law 204 = .ok (.iconst 0, 1) := by decide +kernel
theorem dL_law_205 : decode cL_law 205 = .ok (.invokevirtual 17, 3) := by decide +kernel
theorem dL_law_208 : decode cL_law 208 = .ok (.if_icmp .eq 951, 3) := by decide +kernel
theorem dL_law_211 : decode cL_law 211 = .ok (.iconst 0, 1) := by decide +kernel
theorem dL_law_212 : decode cL_law 212 = .ok (.ireturn, 1) := by decide +kernel
theorem dL_law_213 : decode cL_law 213 = .ok (.aload_n 1, 1) := by decide +kernel
theorem dL_law_214 : decode cL_law 214 = .ok (.aload_n 0, 1) := by decide +kernel
theorem dL_law_215 : decode cL_law 215 = .ok (.iload_n 3, 1) := by decide +kernel
theorem dL_law_216 : decode cL_law 216 = .ok (.iconst 1, 1) := by decide +kernel
theorem dL_law_217 : decode cL_law 217 = .ok (.iadd, 1) := by decide +kernel
theorem dL_law_218 : decode cL_law 218 = .ok (.iaload, 1) := by decide +kernel
theorem dL_law_219 : decode cL_law 219 = .ok (.invokevirtual 18, 3) := by decide +kernel
theorem dL_law_222 : decode cL_law 222 = .ok (.aload_n 2, 1) := by decide +kernel
theorem dL_law_223 : decode cL_law 223 = .ok (.aload_n 0, 1) := by decide +kernel
theorem dL_law_224 : decode cL_law 224 = .ok (.iload_n 3, 1) := by decide +kernel
theorem dL_law_225 : decode cL_law 225 = .ok (.iconst 1, 1) := by decide +kernel
theorem dL_law_226 : decode cL_law 226 = .ok (.iadd, 1) := by decide +kernel
theorem dL_law_227 : decode cL_law 227 = .ok (.iaload, 1) := by decide +kernel
theorem dL_law_228 : decode cL_law 228 = .ok (.invokevirtual 22, 3) := by decide +kernel
theorem dL_law_231 : decode cL_law 231 = .ok (.if_icmp .eq 928, 3) := by decide +kernel
theorem dL_law_234 : decode cL_law 234 = .ok (.iconst 0, 1) := by decide +kernel
theorem dL_law_235 : decode cL_law 235 = .ok (.ireturn, 1) := by decide +kernel
theorem dL_law_236 : decode cL_law 236 = .ok (.aload_n 1, 1) := by decide +kernel
theorem dL_law_237 : decode cL_law 237 = .ok (.aload_n 0, 1) := by decide +kernel
theorem dL_law_238 : decode cL_law 238 = .ok (.iload_n 3, 1) := by decide +kernel
theorem dL_law_239 : decode cL_law 239 = .ok (.iconst 1, 1) := by decide +kernel
theorem dL_law_240 : decode cL_law 240 = .ok (.iadd, 1) := by decide +kernel
theorem dL_law_241 : decode cL_law 241 = .ok (.iaload, 1) := by decide +kernel
theorem dL_law_242 : decode cL_law 242 = .ok (.aload_n 0, 1) := by decide +kernel
theorem dL_law_243 : decode cL_law 243 = .ok (.iload_n 3, 1) := by decide +kernel
theorem dL_law_244 : decode cL_law 244 = .ok (.iconst 2, 1) := by decide +kernel
theorem dL_law_245 : decode cL_law 245 = .ok (.iadd, 1) := by decide +kernel
theorem dL_law_246 : decode cL_law 246 = .ok (.iaload, 1) := by decide +kernel
theorem dL_law_247 : decode cL_law 247 = .ok (.aload_n 0, 1) := by decide +kernel
theorem dL_law_248 : decode cL_law 248 = .ok (.iload_n 3, 1) := by decide +kernel
theorem dL_law_249 : decode cL_law 249 = .ok (.iconst 3, 1) := by decide +kernel
theorem dL_law_250 : decode cL_law 250 = .ok (.iadd, 1) := by decide +kernel
theorem dL_law_251 : decode cL_law 251 = .ok (.iaload, 1) := by decide +kernel
theorem dL_law_252 : decode cL_law 252 = .ok (.invokevirtual 23, 3) := by decide +kernel
theorem dL_law_255 : decode cL_law 255 = .ok (.aload_n 2, 1) := by decide +kernel
theorem dL_law_256 : decode cL_law 256 = .ok (.aload_n 0, 1) := by decide +kernel
theorem dL_law_257 : decode cL_law 257 = .ok (.iload_n 3, 1) := by decide +kernel
theorem dL_law_258 : decode cL_law 258 = .ok (.iconst 1, 1) := by decide +kernel
theorem dL_law_259 : decode cL_law 259 = .ok (.iadd, 1) := by decide +kernel
theorem dL_law_260 : decode cL_law 260 = .ok (.iaload, 1) := by decide +kernel
theorem dL_law_261 : decode cL_law 261 = .ok (.aload_n 0, 1) := by decide +kernel
theorem dL_law_262 : decode cL_law 262 = .ok (.iload_n 3, 1) := by decide +kernel
theorem dL_law_263 : decode cL_law 263 = .ok (.iconst 2, 1) := by decide +kernel
theorem dL_law_264 : decode cL_law 264 = .ok (.iadd, 1) := by decide +kernel
theorem dL_law_265 : decode cL_law 265 = .ok (.iaload, 1) := by decide +kernel
theorem dL_law_266 : decode cL_law 266 = .ok (.aload_n 0, 1) := by decide +kernel
theorem dL_law_267 : decode cL_law 267 = .ok (.iload_n 3, 1) := by decide +kernel
theorem dL_law_268 : decode cL_law 268 = .ok (.iconst 3, 1) := by decide +kernel
theorem dL_law_269 : decode cL_law 269 = .ok (.iadd, 1) := by decide +kernel
theorem dL_law_270 : decode cL_law 270 = .ok (.iaload, 1) := by decide +kernel
theorem dL_law_271 : decode cL_law 271 = .ok (.invokevirtual 27, 3) := by decide +kernel
theorem dL_law_274 : decode cL_law 274 = .ok (.if_icmp .eq 885, 3) := by decide +kernel
theorem dL_law_277 : decode cL_law 277 = .ok (.iconst 0, 1) := by decide +kernel
theorem dL_law_278 : decode cL_law 278 = .ok (.ireturn, 1) := by decide +kernel
theorem dL_law_279 : decode cL_law 279 = .ok (.aload_n 1, 1) := by decide +kernel
theorem dL_law_280 : decode cL_law 280 = .ok (.aload_n 0, 1) := by decide +kernel
theorem dL_law_281 : decode cL_law 281 = .ok (.iload_n 3, 1) := by decide +kernel
theorem dL_law_282 : decode cL_law 282 = .ok (.iconst 1, 1) := by decide +kernel
theorem dL_law_283 : decode cL_law 283 = .ok (.iadd, 1) := by decide +kernel
theorem dL_law_284 : decode cL_law 284 = .ok (.iaload, 1) := by decide +kernel
theorem dL_law_285 : decode cL_law 285 = .ok (.invokevirtual 28, 3) := by decide +kernel
theorem dL_law_288 : decode cL_law 288 = .ok (.aload_n 2, 1) := by decide +kernel
theorem dL_law_289 : decode cL_law 289 = .ok (.aload_n 0, 1) := by decide +kernel
theorem dL_law_290 : decode cL_law 290 = .ok (.iload_n 3, 1) := by decide +kernel
theorem dL_law_291 : decode cL_law 291 = .ok (.iconst 1, 1) := by decide +kernel
theorem dL_law_292 : decode cL_law 292 = .ok (.iadd, 1) := by decide +kernel
theorem dL_law_293 : decode cL_law 293 = .ok (.iaload, 1) := by decide +kernel
theorem dL_law_294 : decode cL_law 294 = .ok (.invokevirtual 31, 3) := by decide +kernel
theorem dL_law_297 : decode cL_law 297 = .ok (.if_icmp .eq 862, 3) := by decide +kernel
theorem dL_law_300 : decode cL_law 300 = .ok (.iconst 0, 1) := by decide +kernel
theorem dL_law_301 : decode cL_law 301 = .ok (.ireturn, 1) := by decide +kernel
theorem dL_law_302 : decode cL_law 302 = .ok (.aload_n 1, 1) := by decide +kernel
theorem dL_law_303 : decode cL_law 303 = .ok (.aload_n 0, 1) := by decide +kernel
theorem dL_law_304 : decode cL_law 304 = .ok (.iload_n 3, 1) := by decide +kernel
theorem dL_law_305 : decode cL_law 305 = .ok (.iconst 1, 1) := by decide +kernel
theorem dL_law_306 : decode cL_law 306 = .ok (.iadd, 1) := by decide +kernel
theorem dL_law_307 : decode cL_law 307 = .ok (.iaload, 1) := by decide +kernel
theorem dL_law_308 : decode cL_law 308 = .ok (.aload_n 0, 1) := by decide +kernel
theorem dL_law_309 : decode cL_law 309 = .ok (.iload_n 3, 1) := by decide +kernel
theorem dL_law_310 : decode cL_law 310 = .ok (.iconst 2, 1) := by decide +kernel
theorem dL_law_311 : decode cL_law 311 = .ok (.iadd, 1) := by decide +kernel
theorem dL_law_312 : decode cL_law 312 = .ok (.iaload, 1) := by decide +kernel
theorem dL_law_313 : decode cL_law 313 = .ok (.aload_n 0, 1) := by decide +kernel
theorem dL_law_314 : decode cL_law 314 = .ok (.iload_n 3, 1) := by decide +kernel
theorem dL_law_315 : decode cL_law 315 = .ok (.iconst 3, 1) := by decide +kernel
theorem dL_law_316 : decode cL_law 316 = .ok (.iadd, 1) := by decide +kernel
theorem dL_law_317 : decode cL_law 317 = .ok (.iaload, 1) := by decide +kernel
theorem dL_law_318 : decode cL_law 318 = .ok (.aload_n 0, 1) := by decide +kernel
theorem dL_law_319 : decode cL_law 319 = .ok (.iload_n 3, 1) := by decide +kernel
theorem dL_law_320 : decode cL_law 320 = .ok (.iconst 4, 1) := by decide +kernel
theorem dL_law_321 : decode cL_law 321 = .ok (.iadd, 1) := by decide +kernel
theorem dL_law_322 : decode cL_law 322 = .ok (.iaload, 1) := by decide +kernel
theorem dL_law_323 : decode cL_law 323 = .ok (.aload_n 0, 1) := by decide +kernel
theorem dL_law_324 : decode cL_law 324 = .ok (.iload_n 3, 1) := by decide +kernel
theorem dL_law_325 : decode cL_law 325 = .ok (.iconst 5, 1) := by decide +kernel
theorem dL_law_326 : decode cL_law 326 = .ok (.iadd, 1) := by decide +kernel
theorem dL_law_327 : decode cL_law 327 = .ok (.iaload, 1) := by decide +kernel
theorem dL_law_328 : decode cL_law 328 = .ok (.invokevirtual 32, 3) := by decide +kernel
theorem dL_law_331 : decode cL_law 331 = .ok (.aload_n 2, 1) := by decide +kernel
theorem dL_law_332 : decode cL_law 332 = .ok (.aload_n 0, 1) := by decide +kernel
theorem dL_law_333 : decode cL_law 333 = .ok (.iload_n 3, 1) := by decide +kernel
theorem dL_law_334 : decode cL_law 334 = .ok (.iconst 1, 1) := by decide +kernel
theorem dL_law_335 : decode cL_law 335 = .ok (.iadd, 1) := by decide +kernel
end
section
theorem dL_law_336 : decode cL_law 336 = .ok (.iaload, 1) := by decide +kernel
theorem dL_law_337 : decode cL_law 337 = .ok (.aload_n 0, 1) := by decide +kernel
theorem dL_law_338 : decode cL_law 338 = .ok (.iload_n 3, 1) := by decide +kernel
theorem dL_law_339 : decode cL_law 339 = .ok (.iconst 2, 1) := by decide +kernel
theorem dL_law_340 : decode cL_law 340 = .ok (.iadd, 1) := by decide +kernel
theorem dL_law_341 : decode cL_law 341 = .ok (.iaload, 1) := by decide +kernel
theorem dL_law_342 : decode cL_law 342 = .ok (.aload_n 0, 1) := by decide +kernel
theorem dL_law_343 : decode cL_law 343 = .ok (.iload_n 3, 1) := by decide +kernel
theorem dL_law_344 : decode cL_law 344 = .ok (.iconst 3, 1) := by decide +kernel
theorem dL_law_345 : decode cL_law 345 = .ok (.iadd, 1) := by decide +kernel
theorem dL_law_346 : decode cL_law 346 = .ok (.iaload, 1) := by decide +kernel
theorem dL_law_347 : decode cL_law 347 = .ok (.aload_n 0, 1) := by decide +kernel
theorem dL_law_348 : decode cL_law 348 = .ok (.iload_n 3, 1) := by decide +kernel
theorem dL_law_349 : decode cL_law 349 = .ok (.iconst 4, 1) := by decide +kernel
theorem dL_law_350 : decode cL_law 350 = .ok (.iadd, 1) := by decide +kernel
theorem dL_law_351 : decode cL_law 351 = .ok (.iaload, 1) := by decide +kernel
theorem dL_law_352 : decode cL_law 352 = .ok (.aload_n 0, 1) := by decide +kernel
theorem dL_law_353 : decode cL_law 353 = .ok (.iload_n 3, 1) := by decide +kernel
theorem dL_law_354 : decode cL_law 354 = .ok (.iconst 5, 1) := by decide +kernel
theorem dL_law_355 : decode cL_law 355 = .ok (.iadd, 1) := by decide +kernel
theorem dL_law_356 : decode cL_law 356 = .ok (.iaload, 1) := by decide +kernel
theorem dL_law_357 : decode cL_law 357 = .ok (.invokevirtual 36, 3) := by decide +kernel
theorem dL_law_360 : decode cL_law 360 = .ok (.if_icmp .eq 799, 3) := by decide +kernel
theorem dL_law_363 : decode cL_law 363 = .ok (.iconst 0, 1) := by decide +kernel
theorem dL_law_364 : decode cL_law 364 = .ok (.ireturn, 1) := by decide +kernel
theorem dL_law_365 : decode cL_law 365 = .ok (.aload_n 1, 1) := by decide +kernel
theorem dL_law_366 : decode cL_law 366 = .ok (.aload_n 0, 1) := by decide +kernel
theorem dL_law_367 : decode cL_law 367 = .ok (.iload_n 3, 1) := by decide +kernel
theorem dL_law_368 : decode cL_law 368 = .ok (.iconst 1, 1) := by decide +kernel
theorem dL_law_369 : decode cL_law 369 = .ok (.iadd, 1) := by decide +kernel
theorem dL_law_370 : decode cL_law 370 = .ok (.iaload, 1) := by decide +kernel
theorem dL_law_371 : decode cL_law 371 = .ok (.invokevirtual 37, 3) := by decide +kernel
theorem dL_law_374 : decode cL_law 374 = .ok (.aload_n 2, 1) := by decide +kernel
theorem dL_law_375 : decode cL_law 375 = .ok (.aload_n 0, 1) := by decide +kernel
theorem dL_law_376 : decode cL_law 376 = .ok (.iload_n 3, 1) := by decide +kernel
theorem dL_law_377 : decode cL_law 377 = .ok (.iconst 1, 1) := by decide +kernel
theorem dL_law_378 : decode cL_law 378 = .ok (.iadd, 1) := by decide +kernel
theorem dL_law_379 : decode cL_law 379 = .ok (.iaload, 1) := by decide +kernel
theorem dL_law_380 : decode cL_law 380 = .ok (.invokevirtual 40, 3) := by decide +kernel
theorem dL_law_383 : decode cL_law 383 = .ok (.if_icmp .eq 776, 3) := by decide +kernel
theorem dL_law_386 : decode cL_law 386 = .ok (.iconst 0, 1) := by decide +kernel
theorem dL_law_387 : decode cL_law 387 = .ok (.ireturn, 1) := by decide +kernel
theorem dL_law_388 : decode cL_law 388 = .ok (.aload_n 1, 1) := by decide +kernel
theorem dL_law_389 : decode cL_law 389 = .ok (.aload_n 0, 1) := by decide +kernel
theorem dL_law_390 : decode cL_law 390 = .ok (.iload_n 3, 1) := by decide +kernel
theorem dL_law_391 : decode cL_law 391 = .ok (.iconst 1, 1) := by decide +kernel
theorem dL_law_392 : decode cL_law 392 = .ok (.iadd, 1) := by decide +kernel
theorem dL_law_393 : decode cL_law 393 = .ok (.iaload, 1) := by decide +kernel
theorem dL_law_394 : decode cL_law 394 = .ok (.aload_n 0, 1) := by decide +kernel
theorem dL_law_395 : decode cL_law 395 = .ok (.iload_n 3, 1) := by decide +kernel
theorem dL_law_396 : decode cL_law 396 = .ok (.iconst 2, 1) := by decide +kernel
theorem dL_law_397 : decode cL_law 397 = .ok (.iadd, 1) := by decide +kernel
theorem dL_law_398 : decode cL_law 398 = .ok (.iaload, 1) := by decide +kernel
theorem dL_law_399 : decode cL_law 399 = .ok (.aload_n 0, 1) := by decide +kernel
theorem dL_law_400 : decode cL_law 400 = .ok (.iload_n 3, 1) := by decide +kernel
theorem dL_law_401 : decode cL_law 401 = .ok (.iconst 3, 1) := by decide +kernel
theorem dL_law_402 : decode cL_law 402 = .ok (.iadd, 1) := by decide +kernel
theorem dL_law_403 : decode cL_law 403 = .ok (.iaload, 1) := by decide +kernel
theorem dL_law_404 : decode cL_law 404 = .ok (.invokevirtual 41, 3) := by decide +kernel
theorem dL_law_407 : decode cL_law 407 = .ok (.aload_n 2, 1) := by decide +kernel
theorem dL_law_408 : decode cL_law 408 = .ok (.aload_n 0, 1) := by decide +kernel
theorem dL_law_409 : decode cL_law 409 = .ok (.iload_n 3, 1) := by decide +kernel
theorem dL_law_410 : decode cL_law 410 = .ok (.iconst 1, 1) := by decide +kernel
theorem dL_law_411 : decode cL_law 411 = .ok (.iadd, 1) := by decide +kernel
theorem dL_law_412 : decode cL_law 412 = .ok (.iaload, 1) := by decide +kernel
theorem dL_law_413 : decode cL_law 413 = .ok (.aload_n 0, 1) := by decide +kernel
theorem dL_law_414 : decode cL_law 414 = .ok (.iload_n 3, 1) := by decide +kernel
theorem dL_law_415 : decode cL_law 415 = .ok (.iconst 2, 1) := by decide +kernel
theorem dL_law_416 : decode cL_law 416 = .ok (.iadd, 1) := by decide +kernel
theorem dL_law_417 : decode cL_law 417 = .ok (.iaload, 1) := by decide +kernel
theorem dL_law_418 : decode cL_law 418 = .ok (.aload_n 0, 1) := by decide +kernel
theorem dL_law_419 : decode cL_law 419 = .ok (.iload_n 3, 1) := by decide +kernel
theorem dL_law_420 : decode cL_law 420 = .ok (.iconst 3, 1) := by decide +kernel
theorem dL_law_421 : decode cL_law 421 = .ok (.iadd, 1) := by decide +kernel
theorem dL_law_422 : decode cL_law 422 = .ok (.iaload, 1) := by decide +kernel
theorem dL_law_423 : decode cL_law 423 = .ok (.invokevirtual 44, 3) := by decide +kernel
theorem dL_law_426 : decode cL_law 426 = .ok (.if_icmp .eq 733, 3) := by decide +kernel
theorem dL_law_429 : decode cL_law 429 = .ok (.iconst 0, 1) := by decide +kernel
theorem dL_law_430 : decode cL_law 430 = .ok (.ireturn, 1) := by decide +kernel
theorem dL_law_431 : decode cL_law 431 = .ok (.aload_n 1, 1) := by decide +kernel
theorem dL_law_432 : decode cL_law 432 = .ok (.aload_n 0, 1) := by decide +kernel
theorem dL_law_433 : decode cL_law 433 = .ok (.iload_n 3, 1) := by decide +kernel
theorem dL_law_434 : decode cL_law 434 = .ok (.iconst 1, 1) := by decide +kernel
theorem dL_law_435 : decode cL_law 435 = .ok (.iadd, 1) := by decide +kernel
theorem dL_law_436 : decode cL_law 436 = .ok (.iaload, 1) := by decide +kernel
theorem dL_law_437 : decode cL_law 437 = .ok (.aload_n 0, 1) := by decide +kernel
theorem dL_law_438 : decode cL_law 438 = .ok (.iload_n 3, 1) := by decide +kernel
theorem dL_law_439 : decode cL_law 439 = .ok (.iconst 2, 1) := by decide +kernel
theorem dL_law_440 : decode cL_law 440 = .ok (.iadd, 1) := by decide +kernel
theorem dL_law_441 : decode cL_law 441 = .ok (.iaload, 1) := by decide +kernel
theorem dL_law_442 : decode cL_law 442 = .ok (.invokevirtual 45, 3) := by decide +kernel
theorem dL_law_445 : decode cL_law 445 = .ok (.aload_n 2, 1) := by decide +kernel
theorem dL_law_446 : decode cL_law 446 = .ok (.aload_n 0, 1) := by decide +kernel
theorem dL_law_447 : decode cL_law 447 = .ok (.iload_n 3, 1) := by decide +kernel
theorem dL_law_448 : decode cL_law 448 = .ok (.iconst 1, 1) := by decide +kernel
theorem dL_law_449 : decode cL_law 449 = .ok (.iadd, 1) := by decide +kernel
theorem dL_law_450 : decode cL_law 450 = .ok (.iaload, 1) := by decide +kernel
theorem dL_law_451 : decode cL_law 451 = .ok (.aload_n 0, 1) := by decide +kernel
theorem dL_law_452 : decode cL_law 452 = .ok (.iload_n 3, 1) := by decide +kernel
theorem dL_law_453 : decode cL_law 453 = .ok (.iconst 2, 1) := by decide +kernel
theorem dL_law_454 : decode cL_law 454 = .ok (.iadd, 1) := by decide +kernel
theorem dL_law_455 : decode cL_law 455 = .ok (.iaload, 1) := by decide +kernel
theorem dL_law_456 : decode cL_law 456 = .ok (.invokevirtual 49, 3) := by decide +kernel
theorem dL_law_459 : decode cL_law 459 = .ok (.if_icmp .eq 700, 3) := by decide +kernel
theorem dL_law_462 : decode cL_law 462 = .ok (.iconst 0, 1) := by decide +kernel
theorem dL_law_463 : decode cL_law 463 = .ok (.ireturn, 1) := by decide +kernel
theorem dL_law_464 : decode cL_law 464 = .ok (.aload_n 1, 1) := by decide +kernel
theorem dL_law_465 : decode cL_law 465 = .ok (.aload_n 0, 1) := by decide +kernel
theorem dL_law_466 : decode cL_law 466 = .ok (.iload_n 3, 1) := by decide +kernel
theorem dL_law_467 : decode cL_law 467 = .ok (.iconst 1, 1) := by decide +kernel
theorem dL_law_468 : decode cL_law 468 = .ok (.iadd, 1) := by decide +kernel
theorem dL_law_469 : decode cL_law 469 = .ok (.iaload, 1) := by decide +kernel
theorem dL_law_470 : decode cL_law 470 = .ok (.aload_n 0, 1) := by decide +kernel
theorem dL_law_471 : decode cL_law 471 = .ok (.iload_n 3, 1) := by decide +kernel
theorem dL_law_472 : decode cL_law 472 = .ok (.iconst 2, 1) := by decide +kernel
theorem dL_law_473 : decode cL_law 473 = .ok (.iadd, 1) := by decide +kernel
theorem dL_law_474 : decode cL_law 474 = .ok (.iaload, 1) := by decide +kernel
theorem dL_law_475 : decode cL_law 475 = .ok (.invokevirtual 50, 3) := by decide +kernel
theorem dL_law_478 : decode cL_law 478 = .ok (.aload_n 2, 1) := by decide +kernel
theorem dL_law_479 : decode cL_law 479 = .ok (.aload_n 0, 1) := by decide +kernel
theorem dL_law_480 : decode cL_law 480 = .ok (.iload_n 3, 1) := by decide +kernel
theorem dL_law_481 : decode cL_law 481 = .ok (.iconst 1, 1) := by decide +kernel
theorem dL_law_482 : decode cL_law 482 = .ok (.iadd, 1) := by decide +kernel
theorem dL_law_483 : decode cL_law 483 = .ok (.iaload, 1) := by decide +kernel
theorem dL_law_484 : decode cL_law 484 = .ok (.aload_n 0, 1) := by decide +kernel
theorem dL_law_485 : decode cL_law 485 = .ok (.iload_n 3, 1) := by decide +kernel
theorem dL_law_486 : decode cL_law 486 = .ok (.iconst 2, 1) := by decide +kernel
theorem dL_law_487 : decode cL_law 487 = .ok (.iadd, 1) := by decide +kernel
theorem dL_law_488 : decode cL_law 488 = .ok (.iaload, 1) := by decide +kernel
theorem dL_law_489 : decode cL_law 489 = .ok (.invokevirtual 53, 3) := by decide +kernel
theorem dL_law_492 : decode cL_law 492 = .ok (.if_icmp .eq 667, 3) := by decide +kernel
theorem dL_law_495 : decode cL_law 495 = .ok (.iconst 0, 1) := by decide +kernel
theorem dL_law_496 : decode cL_law 496 = .ok (.ireturn, 1) := by decide +kernel
theorem dL_law_497 : decode cL_law 497 = .ok (.aload_n 1, 1) := by decide +kernel
theorem dL_law_498 : decode cL_law 498 = .ok (.aload_n 0, 1) := by decide +kernel
theorem dL_law_499 : decode cL_law 499 = .ok (.iload_n 3, 1) := by decide +kernel
theorem dL_law_500 : decode cL_law 500 = .ok (.iconst 1, 1) := by decide +kernel
theorem dL_law_501 : decode cL_law 501 = .ok (.iadd, 1) := by decide +kernel
theorem dL_law_502 : decode cL_law 502 = .ok (.iaload, 1) := by decide +kernel
theorem dL_law_503 : decode cL_law 503 = .ok (.aload_n 0, 1) := by decide +kernel
theorem dL_law_504 : decode cL_law 504 = .ok (.iload_n 3, 1) := by decide +kernel
theorem dL_law_505 : decode cL_law 505 = .ok (.iconst 2, 1) := by decide +kernel
theorem dL_law_506 : decode cL_law 506 = .ok (.iadd, 1) := by decide +kernel
theorem dL_law_507 : decode cL_law 507 = .ok (.iaload, 1) := by decide +kernel
theorem dL_law_508 : decode cL_law 508 = .ok (.invokevirtual 54, 3) := by decide +kernel
theorem dL_law_511 : decode cL_law 511 = .ok (.aload_n 2, 1) := by decide +kernel
theorem dL_law_512 : decode cL_law 512 = .ok (.aload_n 0, 1) := by decide +kernel
theorem dL_law_513 : decode cL_law 513 = .ok (.iload_n 3, 1) := by decide +kernel
theorem dL_law_514 : decode cL_law 514 = .ok (.iconst 1, 1) := by decide +kernel
theorem dL_law_515 : decode cL_law 515 = .ok (.iadd, 1) := by decide +kernel
theorem dL_law_516 : decode cL_law 516 = .ok (.iaload, 1) := by decide +kernel
theorem dL_law_517 : decode cL_law 517 = .ok (.aload_n 0, 1) := by decide +kernel
theorem dL_law_518 : decode cL_law 518 = .ok (.iload_n 3, 1) := by decide +kernel
theorem dL_law_519 : decode cL_law 519 = .ok (.iconst 2, 1) := by decide +kernel
theorem dL_law_520 : decode cL_law 520 = .ok (.iadd, 1) := by decide +kernel
theorem dL_law_521 : decode cL_law 521 = .ok (.iaload, 1) := by decide +kernel
theorem dL_law_522 : decode cL_law 522 = .ok (.invokevirtual 57, 3) := by decide +kernel
theorem dL_law_525 : decode cL_law 525 = .ok (.if_icmp .eq 634, 3) := by decide +kernel
theorem dL_law_528 : decode cL_law 528 = .ok (.iconst 0, 1) := by decide +kernel
theorem dL_law_529 : decode cL_law 529 = .ok (.ireturn, 1) := by decide +kernel
theorem dL_law_530 : decode cL_law 530 = .ok (.aload_n 1, 1) := by decide +kernel
theorem dL_law_531 : decode cL_law 531 = .ok (.aload_n 0, 1) := by decide +kernel
theorem dL_law_532 : decode cL_law 532 = .ok (.iload_n 3, 1) := by decide +kernel
theorem dL_law_533 : decode cL_law 533 = .ok (.iconst 1, 1) := by decide +kernel
theorem dL_law_534 : decode cL_law 534 = .ok (.iadd, 1) := by decide +kernel
theorem dL_law_535 : decode cL_law 535 = .ok (.iaload, 1) := by decide +kernel
theorem dL_law_536 : decode cL_law 536 = .ok (.aload_n 0, 1) := by decide +kernel
theorem dL_law_537 : decode cL_law 537 = .ok (.iload_n 3, 1) := by decide +kernel
theorem dL_law_538 : decode cL_law 538 = .ok (.iconst 2, 1) := by decide +kernel
theorem dL_law_539 : decode cL_law 539 = .ok (.iadd, 1) := by decide +kernel
theorem dL_law_540 : decode cL_law 540 = .ok (.iaload, 1) := by decide +kernel
theorem dL_law_541 : decode cL_law 541 = .ok (.aload_n 0, 1) := by decide +kernel
theorem dL_law_542 : decode cL_law 542 = .ok (.iload_n 3, 1) := by decide +kernel
theorem dL_law_543 : decode cL_law 543 = .ok (.iconst 3, 1) := by decide +kernel
theorem dL_law_544 : decode cL_law 544 = .ok (.iadd, 1) := by decide +kernel
theorem dL_law_545 : decode cL_law 545 = .ok (.iaload, 1) := by decide +kernel
theorem dL_law_546 : decode cL_law 546 = .ok (.aload_n 0, 1) := by decide +kernel
theorem dL_law_547 : decode cL_law 547 = .ok (.iload_n 3, 1) := by decide +kernel
theorem dL_law_548 : decode cL_law 548 = .ok (.iconst 4, 1) := by decide +kernel
theorem dL_law_549 : decode cL_law 549 = .ok (.iadd, 1) := by decide +kernel
theorem dL_law_550 : decode cL_law 550 = .ok (.iaload, 1) := by decide +kernel
theorem dL_law_551 : decode cL_law 551 = .ok (.invokevirtual 58, 3) := by decide +kernel
theorem dL_law_554 : decode cL_law 554 = .ok (.aload_n 2, 1) := by decide +kernel
theorem dL_law_555 : decode cL_law 555 = .ok (.aload_n 0, 1) := by decide +kernel
theorem dL_law_556 : decode cL_law 556 = .ok (.iload_n 3, 1) := by decide +kernel
theorem dL_law_557 : decode cL_law 557 = .ok (.iconst 1, 1) := by decide +kernel
theorem dL_law_558 : decode cL_law 558 = .ok (.iadd, 1) := by decide +kernel
theorem dL_law_559 : decode cL_law 559 = .ok (.iaload, 1) := by decide +kernel
theorem dL_law_560 : decode cL_law 560 = .ok (.aload_n 0, 1) := by decide +kernel
theorem dL_law_561 : decode cL_law 561 = .ok (.iload_n 3, 1) := by decide +kernel
theorem dL_law_562 : decode cL_law 562 = .ok (.iconst 2, 1) := by decide +kernel
theorem dL_law_563 : decode cL_law 563 = .ok (.iadd, 1) := by decide +kernel
theorem dL_law_564 : decode cL_law 564 = .ok (.iaload, 1) := by decide +kernel
theorem dL_law_565 : decode cL_law 565 = .ok (.aload_n 0, 1) := by decide +kernel
theorem dL_law_566 : decode cL_law 566 = .ok (.iload_n 3, 1) := by decide +kernel
theorem dL_law_567 : decode cL_law 567 = .ok (.iconst 3, 1) := by decide +kernel
theorem dL_law_568 : decode cL_law 568 = .ok (.iadd, 1) := by decide +kernel
theorem dL_law_569 : decode cL_law 569 = .ok (.iaload, 1) := by decide +kernel
theorem dL_law_570 : decode cL_law 570 = .ok (.aload_n 0, 1) := by decide +kernel
theorem dL_law_571 : decode cL_law 571 = .ok (.iload_n 3, 1) := by decide +kernel
theorem dL_law_572 : decode cL_law 572 = .ok (.iconst 4, 1) := by decide +kernel
theorem dL_law_573 : decode cL_law 573 = .ok (.iadd, 1) := by decide +kernel
theorem dL_law_574 : decode cL_law 574 = .ok (.iaload, 1) := by decide +kernel
theorem dL_law_575 : decode cL_law 575 = .ok (.invokevirtual 62, 3) := by decide +kernel
theorem dL_law_578 : decode cL_law 578 = .ok (.if_icmp .eq 581, 3) := by decide +kernel
theorem dL_law_581 : decode cL_law 581 = .ok (.iconst 0, 1) := by decide +kernel
theorem dL_law_582 : decode cL_law 582 = .ok (.ireturn, 1) := by decide +kernel
theorem dL_law_583 : decode cL_law 583 = .ok (.aload_n 1, 1) := by decide +kernel
theorem dL_law_584 : decode cL_law 584 = .ok (.aload_n 0, 1) := by decide +kernel
theorem dL_law_585 : decode cL_law 585 = .ok (.iload_n 3, 1) := by decide +kernel
theorem dL_law_586 : decode cL_law 586 = .ok (.iconst 1, 1) := by decide +kernel
theorem dL_law_587 : decode cL_law 587 = .ok (.iadd, 1) := by decide +kernel
theorem dL_law_588 : decode cL_law 588 = .ok (.iaload, 1) := by decide +kernel
theorem dL_law_589 : decode cL_law 589 = .ok (.aload_n 0, 1) := by decide +kernel
theorem dL_law_590 : decode cL_law 590 = .ok (.iload_n 3, 1) := by decide +kernel
theorem dL_law_591 : decode cL_law 591 = .ok (.iconst 2, 1) := by decide +kernel
theorem dL_law_592 : decode cL_law 592 = .ok (.iadd, 1) := by decide +kernel
theorem dL_law_593 : decode cL_law 593 = .ok (.iaload, 1) := by decide +kernel
theorem dL_law_594 : decode cL_law 594 = .ok (.aload_n 0, 1) := by decide +kernel
theorem dL_law_595 : decode cL_law 595 = .ok (.iload_n 3, 1) := by decide +kernel
theorem dL_law_596 : decode cL_law 596 = .ok (.iconst 3, 1) := by decide +kernel
theorem dL_law_597 : decode cL_law 597 = .ok (.iadd, 1) := by decide +kernel
theorem dL_law_598 : decode cL_law 598 = .ok (.iaload, 1) := by decide +kernel
theorem dL_law_599 : decode cL_law 599 = .ok (.aload_n 0, 1) := by decide +kernel
theorem dL_law_600 : decode cL_law 600 = .ok (.iload_n 3, 1) := by decide +kernel
theorem dL_law_601 : decode cL_law 601 = .ok (.iconst 4, 1) := by decide +kernel
theorem dL_law_602 : decode cL_law 602 = .ok (.iadd, 1) := by decide +kernel
theorem dL_law_603 : decode cL_law 603 = .ok (.iaload, 1) := by decide +kernel
theorem dL_law_604 : decode cL_law 604 = .ok (.aload_n 0, 1) := by decide +kernel
theorem dL_law_605 : decode cL_law 605 = .ok (.iload_n 3, 1) := by decide +kernel
theorem dL_law_606 : decode cL_law 606 = .ok (.iconst 5, 1) := by decide +kernel
theorem dL_law_607 : decode cL_law 607 = .ok (.iadd, 1) := by decide +kernel
theorem dL_law_608 : decode cL_law 608 = .ok (.iaload, 1) := by decide +kernel
theorem dL_law_609 : decode cL_law 609 = .ok (.aload_n 0, 1) := by decide +kernel
theorem dL_law_610 : decode cL_law 610 = .ok (.iload_n 3, 1) := by decide +kernel
theorem dL_law_611 : decode cL_law 611 = .ok (.bipush 6, 2) := by decide +kernel
theorem dL_law_613 : decode cL_law 613 = .ok (.iadd, 1) := by decide +kernel
theorem dL_law_614 : decode cL_law 614 = .ok (.iaload, 1) := by decide +kernel
theorem dL_law_615 : decode cL_law 615 = .ok (.aload_n 0, 1) := by decide +kernel
theorem dL_law_616 : decode cL_law 616 = .ok (.iload_n 3, 1) := by decide +kernel
theorem dL_law_617 : decode cL_law 617 = .ok (.bipush 7, 2) := by decide +kernel
theorem dL_law_619 : decode cL_law 619 = .ok (.iadd, 1) := by decide +kernel
theorem dL_law_620 : decode cL_law 620 = .ok (.iaload, 1) := by decide +kernel
theorem dL_law_621 : decode cL_law 621 = .ok (.invokevirtual 63, 3) := by decide +kernel
theorem dL_law_624 : decode cL_law 624 = .ok (.aload_n 2, 1) := by decide +kernel
theorem dL_law_625 : decode cL_law 625 = .ok (.aload_n 0, 1) := by decide +kernel
theorem dL_law_626 : decode cL_law 626 = .ok (.iload_n 3, 1) := by decide +kernel
theorem dL_law_627 : decode cL_law 627 = .ok (.iconst 1, 1) := by decide +kernel
theorem dL_law_628 : decode cL_law 628 = .ok (.iadd, 1) := by decide +kernel
theorem dL_law_629 : decode cL_law 629 = .ok (.iaload, 1) := by decide +kernel
theorem dL_law_630 : decode cL_law 630 = .ok (.aload_n 0, 1) := by decide +kernel
theorem dL_law_631 : decode cL_law 631 = .ok (.iload_n 3, 1) := by decide +kernel
theorem dL_law_632 : decode cL_law 632 = .ok (.iconst 2, 1) := by decide +kernel
theorem dL_law_633 : decode cL_law 633 = .ok (.iadd, 1) := by decide +kernel
theorem dL_law_634 : decode cL_law 634 = .ok (.iaload, 1) := by decide +kernel
theorem dL_law_635 : decode cL_law 635 = .ok (.aload_n 0, 1) := by decide +kernel
theorem dL_law_636 : decode cL_law 636 = .ok (.iload_n 3, 1) := by decide +kernel
theorem dL_law_637 : decode cL_law 637 = .ok (.iconst 3, 1) := by decide +kernel
theorem dL_law_638 : decode cL_law 638 = .ok (.iadd, 1) := by decide +kernel
theorem dL_law_639 : decode cL_law 639 = .ok (.iaload, 1) := by decide +kernel
theorem dL_law_640 : decode cL_law 640 = .ok (.aload_n 0, 1) := by decide +kernel
theorem dL_law_641 : decode cL_law 641 = .ok (.iload_n 3, 1) := by decide +kernel
theorem dL_law_642 : decode cL_law 642 = .ok (.iconst 4, 1) := by decide +kernel
theorem dL_law_643 : decode cL_law 643 = .ok (.iadd, 1) := by decide +kernel
theorem dL_law_644 : decode cL_law 644 = .ok (.iaload, 1) := by decide +kernel
theorem dL_law_645 : decode cL_law 645 = .ok (.aload_n 0, 1) := by decide +kernel
theorem dL_law_646 : decode cL_law 646 = .ok (.iload_n 3, 1) := by decide +kernel
theorem dL_law_647 : decode cL_law 647 = .ok (.iconst 5, 1) := by decide +kernel
theorem dL_law_648 : decode cL_law 648 = .ok (.iadd, 1) := by decide +kernel
theorem dL_law_649 : decode cL_law 649 = .ok (.iaload, 1) := by decide +kernel
theorem dL_law_650 : decode cL_law 650 = .ok (.aload_n 0, 1) := by decide +kernel
theorem dL_law_651 : decode cL_law 651 = .ok (.iload_n 3, 1) := by decide +kernel
theorem dL_law_652 : decode cL_law 652 = .ok (.bipush 6, 2) := by decide +kernel
theorem dL_law_654 : decode cL_law 654 = .ok (.iadd, 1) := by decide +kernel
theorem dL_law_655 : decode cL_law 655 = .ok (.iaload, 1) := by decide +kernel
theorem dL_law_656 : decode cL_law 656 = .ok (.aload_n 0, 1) := by decide +kernel
theorem dL_law_657 : decode cL_law 657 = .ok (.iload_n 3, 1) := by decide +kernel
theorem dL_law_658 : decode cL_law 658 = .ok (.bipush 7, 2) := by decide +kernel
theorem dL_law_660 : decode cL_law 660 = .ok (.iadd, 1) := by decide +kernel
theorem dL_law_661 : decode cL_law 661 = .ok (.iaload, 1) := by decide +kernel
theorem dL_law_662 : decode cL_law 662 = .ok (.invokevirtual 67, 3) := by decide +kernel
theorem dL_law_665 : decode cL_law 665 = .ok (.if_icmp .eq 494, 3) := by decide +kernel
theorem dL_law_668 : decode cL_law 668 = .ok (.iconst 0, 1) := by decide +kernel
theorem dL_law_669 : decode cL_law 669 = .ok (.ireturn, 1) := by decide +kernel
theorem dL_law_670 : decode cL_law 670 = .ok (.aload_n 1, 1) := by decide +kernel
theorem dL_law_671 : decode cL_law 671 = .ok (.aload_n 0, 1) := by decide +kernel
theorem dL_law_672 : decode cL_law 672 = .ok (.iload_n 3, 1) := by decide +kernel
theorem dL_law_673 : decode cL_law 673 = .ok (.iconst 1, 1) := by decide +kernel
theorem dL_law_674 : decode cL_law 674 = .ok (.iadd, 1) := by decide +kernel
theorem dL_law_675 : decode cL_law 675 = .ok (.iaload, 1) := by decide +kernel
theorem dL_law_676 : decode cL_law 676 = .ok (.aload_n 0, 1) := by decide +kernel
theorem dL_law_677 : decode cL_law 677 = .ok (.iload_n 3, 1) := by decide +kernel
theorem dL_law_678 : decode cL_law 678 = .ok (.iconst 2, 1) := by decide +kernel
theorem dL_law_679 : decode cL_law 679 = .ok (.iadd, 1) := by decide +kernel
theorem dL_law_680 : decode cL_law 680 = .ok (.iaload, 1) := by decide +kernel
theorem dL_law_681 : decode cL_law 681 = .ok (.invokevirtual 68, 3) := by decide +kernel
theorem dL_law_684 : decode cL_law 684 = .ok (.aload_n 2, 1) := by decide +kernel
theorem dL_law_685 : decode cL_law 685 = .ok (.aload_n 0, 1) := by decide +kernel
theorem dL_law_686 : decode cL_law 686 = .ok (.iload_n 3, 1) := by decide +kernel
theorem dL_law_687 : decode cL_law 687 = .ok (.iconst 1, 1) := by decide +kernel
theorem dL_law_688 : decode cL_law 688 = .ok (.iadd, 1) := by decide +kernel
theorem dL_law_689 : decode cL_law 689 = .ok (.iaload, 1) := by decide +kernel
theorem dL_law_690 : decode cL_law 690 = .ok (.aload_n 0, 1) := by decide +kernel
theorem dL_law_691 : decode cL_law 691 = .ok (.iload_n 3, 1) := by decide +kernel
theorem dL_law_692 : decode cL_law 692 = .ok (.iconst 2, 1) := by decide +kernel
theorem dL_law_693 : decode cL_law 693 = .ok (.iadd, 1) := by decide +kernel
theorem dL_law_694 : decode cL_law 694 = .ok (.iaload, 1) := by decide +kernel
theorem dL_law_695 : decode cL_law 695 = .ok (.invokevirtual 71, 3) := by decide +kernel
theorem dL_law_698 : decode cL_law 698 = .ok (.if_icmp .eq 461, 3) := by decide +kernel
theorem dL_law_701 : decode cL_law 701 = .ok (.iconst 0, 1) := by decide +kernel
theorem dL_law_702 : decode cL_law 702 = .ok (.ireturn, 1) := by decide +kernel
theorem dL_law_703 : decode cL_law 703 = .ok (.aload_n 1, 1) := by decide +kernel
theorem dL_law_704 : decode cL_law 704 = .ok (.aload_n 0, 1) := by decide +kernel
theorem dL_law_705 : decode cL_law 705 = .ok (.iload_n 3, 1) := by decide +kernel
theorem dL_law_706 : decode cL_law 706 = .ok (.iconst 1, 1) := by decide +kernel
theorem dL_law_707 : decode cL_law 707 = .ok (.iadd, 1) := by decide +kernel
theorem dL_law_708 : decode cL_law 708 = .ok (.iaload, 1) := by decide +kernel
theorem dL_law_709 : decode cL_law 709 = .ok (.invokevirtual 72, 3) := by decide +kernel
theorem dL_law_712 : decode cL_law 712 = .ok (.aload_n 2, 1) := by decide +kernel
theorem dL_law_713 : decode cL_law 713 = .ok (.aload_n 0, 1) := by decide +kernel
theorem dL_law_714 : decode cL_law 714 = .ok (.iload_n 3, 1) := by decide +kernel
theorem dL_law_715 : decode cL_law 715 = .ok (.iconst 1, 1) := by decide +kernel
theorem dL_law_716 : decode cL_law 716 = .ok (.iadd, 1) := by decide +kernel
theorem dL_law_717 : decode cL_law 717 = .ok (.iaload, 1) := by decide +kernel
theorem dL_law_718 : decode cL_law 718 = .ok (.invokevirtual 75, 3) := by decide +kernel
theorem dL_law_721 : decode cL_law 721 = .ok (.if_icmp .eq 438, 3) := by decide +kernel
theorem dL_law_724 : decode cL_law 724 = .ok (.iconst 0, 1) := by decide +kernel
theorem dL_law_725 : decode cL_law 725 = .ok (.ireturn, 1) := by decide +kernel
theorem dL_law_726 : decode cL_law 726 = .ok (.aload_n 1, 1) := by decide +kernel
theorem dL_law_727 : decode cL_law 727 = .ok (.invokevirtual 76, 3) := by decide +kernel
theorem dL_law_730 : decode cL_law 730 = .ok (.aload_n 2, 1) := by decide +kernel
theorem dL_law_731 : decode cL_law 731 = .ok (.invokevirtual 80, 3) := by decide +kernel
theorem dL_law_734 : decode cL_law 734 = .ok (.if_icmp .eq 425, 3) := by decide +kernel
theorem dL_law_737 : decode cL_law 737 = .ok (.iconst 0, 1) := by decide +kernel
theorem dL_law_738 : decode cL_law 738 = .ok (.ireturn, 1) := by decide +kernel
theorem dL_law_739 : decode cL_law 739 = .ok (.aload_n 1, 1) := by decide +kernel
theorem dL_law_740 : decode cL_law 740 = .ok (.aload_n 0, 1) := by decide +kernel
theorem dL_law_741 : decode cL_law 741 = .ok (.iload_n 3, 1) := by decide +kernel
theorem dL_law_742 : decode cL_law 742 = .ok (.iconst 1, 1) := by decide +kernel
theorem dL_law_743 : decode cL_law 743 = .ok (.iadd, 1) := by decide +kernel
theorem dL_law_744 : decode cL_law 744 = .ok (.iaload, 1) := by decide +kernel
theorem dL_law_745 : decode cL_law 745 = .ok (.aload_n 0, 1) := by decide +kernel
theorem dL_law_746 : decode cL_law 746 = .ok (.iload_n 3, 1) := by decide +kernel
theorem dL_law_747 : decode cL_law 747 = .ok (.iconst 2, 1) := by decide +kernel
theorem dL_law_748 : decode cL_law 748 = .ok (.iadd, 1) := by decide +kernel
theorem dL_law_749 : decode cL_law 749 = .ok (.iaload, 1) := by decide +kernel
theorem dL_law_750 : decode cL_law 750 = .ok (.aload_n 0, 1) := by decide +kernel
theorem dL_law_751 : decode cL_law 751 = .ok (.iload_n 3, 1) := by decide +kernel
theorem dL_law_752 : decode cL_law 752 = .ok (.iconst 3, 1) := by decide +kernel
theorem dL_law_753 : decode cL_law 753 = .ok (.iadd, 1) := by decide +kernel
theorem dL_law_754 : decode cL_law 754 = .ok (.iaload, 1) := by decide +kernel
theorem dL_law_755 : decode cL_law 755 = .ok (.aload_n 0, 1) := by decide +kernel
theorem dL_law_756 : decode cL_law 756 = .ok (.iload_n 3, 1) := by decide +kernel
theorem dL_law_757 : decode cL_law 757 = .ok (.iconst 4, 1) := by decide +kernel
theorem dL_law_758 : decode cL_law 758 = .ok (.iadd, 1) := by decide +kernel
theorem dL_law_759 : decode cL_law 759 = .ok (.iaload, 1) := by decide +kernel
theorem dL_law_760 : decode cL_law 760 = .ok (.invokevirtual 81, 3) := by decide +kernel
theorem dL_law_763 : decode cL_law 763 = .ok (.aload_n 2, 1) := by decide +kernel
theorem dL_law_764 : decode cL_law 764 = .ok (.aload_n 0, 1) := by decide +kernel
theorem dL_law_765 : decode cL_law 765 = .ok (.iload_n 3, 1) := by decide +kernel
theorem dL_law_766 : decode cL_law 766 = .ok (.iconst 1, 1) := by decide +kernel
theorem dL_law_767 : decode cL_law 767 = .ok (.iadd, 1) := by decide +kernel
theorem dL_law_768 : decode cL_law 768 = .ok (.iaload, 1) := by decide +kernel
theorem dL_law_769 : decode cL_law 769 = .ok (.aload_n 0, 1) := by decide +kernel
theorem dL_law_770 : decode cL_law 770 = .ok (.iload_n 3, 1) := by decide +kernel
theorem dL_law_771 : decode cL_law 771 = .ok (.iconst 2, 1) := by decide +kernel
theorem dL_law_772 : decode cL_law 772 = .ok (.iadd, 1) := by decide +kernel
theorem dL_law_773 : decode cL_law 773 = .ok (.iaload, 1) := by decide +kernel
theorem dL_law_774 : decode cL_law 774 = .ok (.aload_n 0, 1) := by decide +kernel
theorem dL_law_775 : decode cL_law 775 = .ok (.iload_n 3, 1) := by decide +kernel
theorem dL_law_776 : decode cL_law 776 = .ok (.iconst 3, 1) := by decide +kernel
theorem dL_law_777 : decode cL_law 777 = .ok (.iadd, 1) := by decide +kernel
theorem dL_law_778 : decode cL_law 778 = .ok (.iaload, 1) := by decide +kernel
theorem dL_law_779 : decode cL_law 779 = .ok (.aload_n 0, 1) := by decide +kernel
theorem dL_law_780 : decode cL_law 780 = .ok (.iload_n 3, 1) := by decide +kernel
theorem dL_law_781 : decode cL_law 781 = .ok (.iconst 4, 1) := by decide +kernel
theorem dL_law_782 : decode cL_law 782 = .ok (.iadd, 1) := by decide +kernel
theorem dL_law_783 : decode cL_law 783 = .ok (.iaload, 1) := by decide +kernel
theorem dL_law_784 : decode cL_law 784 = .ok (.invokevirtual 84, 3) := by decide +kernel
theorem dL_law_787 : decode cL_law 787 = .ok (.if_icmp .eq 372, 3) := by decide +kernel
theorem dL_law_790 : decode cL_law 790 = .ok (.iconst 0, 1) := by decide +kernel
theorem dL_law_791 : decode cL_law 791 = .ok (.ireturn, 1) := by decide +kernel
theorem dL_law_792 : decode cL_law 792 = .ok (.aload_n 1, 1) := by decide +kernel
theorem dL_law_793 : decode cL_law 793 = .ok (.aload_n 0, 1) := by decide +kernel
theorem dL_law_794 : decode cL_law 794 = .ok (.iload_n 3, 1) := by decide +kernel
theorem dL_law_795 : decode cL_law 795 = .ok (.iconst 1, 1) := by decide +kernel
theorem dL_law_796 : decode cL_law 796 = .ok (.iadd, 1) := by decide +kernel
theorem dL_law_797 : decode cL_law 797 = .ok (.iaload, 1) := by decide +kernel
theorem dL_law_798 : decode cL_law 798 = .ok (.aload_n 0, 1) := by decide +kernel
theorem dL_law_799 : decode cL_law 799 = .ok (.iload_n 3, 1) := by decide +kernel
theorem dL_law_800 : decode cL_law 800 = .ok (.iconst 2, 1) := by decide +kernel
theorem dL_law_801 : decode cL_law 801 = .ok (.iadd, 1) := by decide +kernel
theorem dL_law_802 : decode cL_law 802 = .ok (.iaload, 1) := by decide +kernel
theorem dL_law_803 : decode cL_law 803 = .ok (.aload_n 0, 1) := by decide +kernel
theorem dL_law_804 : decode cL_law 804 = .ok (.iload_n 3, 1) := by decide +kernel
theorem dL_law_805 : decode cL_law 805 = .ok (.iconst 3, 1) := by decide +kernel
theorem dL_law_806 : decode cL_law 806 = .ok (.iadd, 1) := by decide +kernel
theorem dL_law_807 : decode cL_law 807 = .ok (.iaload, 1) := by decide +kernel
theorem dL_law_808 : decode cL_law 808 = .ok (.invokevirtual 85, 3) := by decide +kernel
theorem dL_law_811 : decode cL_law 811 = .ok (.aload_n 2, 1) := by decide +kernel
theorem dL_law_812 : decode cL_law 812 = .ok (.aload_n 0, 1) := by decide +kernel
theorem dL_law_813 : decode cL_law 813 = .ok (.iload_n 3, 1) := by decide +kernel
theorem dL_law_814 : decode cL_law 814 = .ok (.iconst 1, 1) := by decide +kernel
theorem dL_law_815 : decode cL_law 815 = .ok (.iadd, 1) := by decide +kernel
theorem dL_law_816 : decode cL_law 816 = .ok (.iaload, 1) := by decide +kernel
theorem dL_law_817 : decode cL_law 817 = .ok (.aload_n 0, 1) := by decide +kernel
theorem dL_law_818 : decode cL_law 818 = .ok (.iload_n 3, 1) := by decide +kernel
theorem dL_law_819 : decode cL_law 819 = .ok (.iconst 2, 1) := by decide +kernel
theorem dL_law_820 : decode cL_law 820 = .ok (.iadd, 1) := by decide +kernel
theorem dL_law_821 : decode cL_law 821 = .ok (.iaload, 1) := by decide +kernel
theorem dL_law_822 : decode cL_law 822 = .ok (.aload_n 0, 1) := by decide +kernel
theorem dL_law_823 : decode cL_law 823 = .ok (.iload_n 3, 1) := by decide +kernel
theorem dL_law_824 : decode cL_law 824 = .ok (.iconst 3, 1) := by decide +kernel
theorem dL_law_825 : decode cL_law 825 = .ok (.iadd, 1) := by decide +kernel
theorem dL_law_826 : decode cL_law 826 = .ok (.iaload, 1) := by decide +kernel
theorem dL_law_827 : decode cL_law 827 = .ok (.invokevirtual 88, 3) := by decide +kernel
theorem dL_law_830 : decode cL_law 830 = .ok (.if_icmp .eq 329, 3) := by decide +kernel
theorem dL_law_833 : decode cL_law 833 = .ok (.iconst 0, 1) := by decide +kernel
theorem dL_law_834 : decode cL_law 834 = .ok (.ireturn, 1) := by decide +kernel
theorem dL_law_835 : decode cL_law 835 = .ok (.aload_n 1, 1) := by decide +kernel
theorem dL_law_836 : decode cL_law 836 = .ok (.aload_n 0, 1) := by decide +kernel
theorem dL_law_837 : decode cL_law 837 = .ok (.iload_n 3, 1) := by decide +kernel
theorem dL_law_838 : decode cL_law 838 = .ok (.iconst 1, 1) := by decide +kernel
theorem dL_law_839 : decode cL_law 839 = .ok (.iadd, 1) := by decide +kernel
theorem dL_law_840 : decode cL_law 840 = .ok (.iaload, 1) := by decide +kernel
theorem dL_law_841 : decode cL_law 841 = .ok (.aload_n 0, 1) := by decide +kernel
theorem dL_law_842 : decode cL_law 842 = .ok (.iload_n 3, 1) := by decide +kernel
theorem dL_law_843 : decode cL_law 843 = .ok (.iconst 2, 1) := by decide +kernel
theorem dL_law_844 : decode cL_law 844 = .ok (.iadd, 1) := by decide +kernel
theorem dL_law_845 : decode cL_law 845 = .ok (.iaload, 1) := by decide +kernel
theorem dL_law_846 : decode cL_law 846 = .ok (.aload_n 0, 1) := by decide +kernel
theorem dL_law_847 : decode cL_law 847 = .ok (.iload_n 3, 1) := by decide +kernel
theorem dL_law_848 : decode cL_law 848 = .ok (.iconst 3, 1) := by decide +kernel
theorem dL_law_849 : decode cL_law 849 = .ok (.iadd, 1) := by decide +kernel
theorem dL_law_850 : decode cL_law 850 = .ok (.iaload, 1) := by decide +kernel
theorem dL_law_851 : decode cL_law 851 = .ok (.ifCond .eq 7, 3) := by decide +kernel
theorem dL_law_854 : decode cL_law 854 = .ok (.iconst 1, 1) := by decide +kernel
theorem dL_law_855 : decode cL_law 855 = .ok (.goto 4, 3) := by decide +kernel
theorem dL_law_858 : decode cL_law 858 = .ok (.iconst 0, 1) := by decide +kernel
theorem dL_law_859 : decode cL_law 859 = .ok (.invokevirtual 89, 3) := by decide +kernel
theorem dL_law_862 : decode cL_law 862 = .ok (.aload_n 2, 1) := by decide +kernel
theorem dL_law_863 : decode cL_law 863 = .ok (.aload_n 0, 1) := by decide +kernel
theorem dL_law_864 : decode cL_law 864 = .ok (.iload_n 3, 1) := by decide +kernel
theorem dL_law_865 : decode cL_law 865 = .ok (.iconst 1, 1) := by decide +kernel
theorem dL_law_866 : decode cL_law 866 = .ok (.iadd, 1) := by decide +kernel
theorem dL_law_867 : decode cL_law 867 = .ok (.iaload, 1) := by decide +kernel
theorem dL_law_868 : decode cL_law 868 = .ok (.aload_n 0, 1) := by decide +kernel
theorem dL_law_869 : decode cL_law 869 = .ok (.iload_n 3, 1) := by decide +kernel
theorem dL_law_870 : decode cL_law 870 = .ok (.iconst 2, 1) := by decide +kernel
theorem dL_law_871 : decode cL_law 871 = .ok (.iadd, 1) := by decide +kernel
theorem dL_law_872 : decode cL_law 872 = .ok (.iaload, 1) := by decide +kernel
theorem dL_law_873 : decode cL_law 873 = .ok (.aload_n 0, 1) := by decide +kernel
theorem dL_law_874 : decode cL_law 874 = .ok (.iload_n 3, 1) := by decide +kernel
theorem dL_law_875 : decode cL_law 875 = .ok (.iconst 3, 1) := by decide +kernel
theorem dL_law_876 : decode cL_law 876 = .ok (.iadd, 1) := by decide +kernel
theorem dL_law_877 : decode cL_law 877 = .ok (.iaload, 1) := by decide +kernel
theorem dL_law_878 : decode cL_law 878 = .ok (.ifCond .eq 7, 3) := by decide +kernel
theorem dL_law_881 : decode cL_law 881 = .ok (.iconst 1, 1) := by decide +kernel
theorem dL_law_882 : decode cL_law 882 = .ok (.goto 4, 3) := by decide +kernel
theorem dL_law_885 : decode cL_law 885 = .ok (.iconst 0, 1) := by decide +kernel
theorem dL_law_886 : decode cL_law 886 = .ok (.invokevirtual 93, 3) := by decide +kernel
theorem dL_law_889 : decode cL_law 889 = .ok (.if_icmp .eq 270, 3) := by decide +kernel
theorem dL_law_892 : decode cL_law 892 = .ok (.iconst 0, 1) := by decide +kernel
theorem dL_law_893 : decode cL_law 893 = .ok (.ireturn, 1) := by decide +kernel
theorem dL_law_894 : decode cL_law 894 = .ok (.aload_n 1, 1) := by decide +kernel
theorem dL_law_895 : decode cL_law 895 = .ok (.aload_n 0, 1) := by decide +kernel
theorem dL_law_896 : decode cL_law 896 = .ok (.iload_n 3, 1) := by decide +kernel
theorem dL_law_897 : decode cL_law 897 = .ok (.iconst 1, 1) := by decide +kernel
theorem dL_law_898 : decode cL_law 898 = .ok (.iadd, 1) := by decide +kernel
theorem dL_law_899 : decode cL_law 899 = .ok (.iaload, 1) := by decide +kernel
theorem dL_law_900 : decode cL_law 900 = .ok (.aload_n 0, 1) := by decide +kernel
theorem dL_law_901 : decode cL_law 901 = .ok (.iload_n 3, 1) := by decide +kernel
theorem dL_law_902 : decode cL_law 902 = .ok (.iconst 2, 1) := by decide +kernel
theorem dL_law_903 : decode cL_law 903 = .ok (.iadd, 1) := by decide +kernel
theorem dL_law_904 : decode cL_law 904 = .ok (.iaload, 1) := by decide +kernel
theorem dL_law_905 : decode cL_law 905 = .ok (.aload_n 0, 1) := by decide +kernel
theorem dL_law_906 : decode cL_law 906 = .ok (.iload_n 3, 1) := by decide +kernel
theorem dL_law_907 : decode cL_law 907 = .ok (.iconst 3, 1) := by decide +kernel
theorem dL_law_908 : decode cL_law 908 = .ok (.iadd, 1) := by decide +kernel
theorem dL_law_909 : decode cL_law 909 = .ok (.iaload, 1) := by decide +kernel
theorem dL_law_910 : decode cL_law 910 = .ok (.invokevirtual 94, 3) := by decide +kernel
theorem dL_law_913 : decode cL_law 913 = .ok (.aload_n 2, 1) := by decide +kernel
theorem dL_law_914 : decode cL_law 914 = .ok (.aload_n 0, 1) := by decide +kernel
theorem dL_law_915 : decode cL_law 915 = .ok (.iload_n 3, 1) := by decide +kernel
theorem dL_law_916 : decode cL_law 916 = .ok (.iconst 1, 1) := by decide +kernel
theorem dL_law_917 : decode cL_law 917 = .ok (.iadd, 1) := by decide +kernel
theorem dL_law_918 : decode cL_law 918 = .ok (.iaload, 1) := by decide +kernel
theorem dL_law_919 : decode cL_law 919 = .ok (.aload_n 0, 1) := by decide +kernel
theorem dL_law_920 : decode cL_law 920 = .ok (.iload_n 3, 1) := by decide +kernel
theorem dL_law_921 : decode cL_law 921 = .ok (.iconst 2, 1) := by decide +kernel
theorem dL_law_922 : decode cL_law 922 = .ok (.iadd, 1) := by decide +kernel
theorem dL_law_923 : decode cL_law 923 = .ok (.iaload, 1) := by decide +kernel
theorem dL_law_924 : decode cL_law 924 = .ok (.aload_n 0, 1) := by decide +kernel
theorem dL_law_925 : decode cL_law 925 = .ok (.iload_n 3, 1) := by decide +kernel
theorem dL_law_926 : decode cL_law 926 = .ok (.iconst 3, 1) := by decide +kernel
theorem dL_law_927 : decode cL_law 927 = .ok (.iadd, 1) := by decide +kernel
theorem dL_law_928 : decode cL_law 928 = .ok (.iaload, 1) := by decide +kernel
theorem dL_law_929 : decode cL_law 929 = .ok (.invokevirtual 97, 3) := by decide +kernel
theorem dL_law_932 : decode cL_law 932 = .ok (.if_icmp .eq 227, 3) := by decide +kernel
theorem dL_law_935 : decode cL_law 935 = .ok (.iconst 0, 1) := by decide +kernel
end
section
theorem dL_law_936 : decode cL_law 936 = .ok (.ireturn, 1) := by decide +kernel
theorem dL_law_937 : decode cL_law 937 = .ok (.aload_n 1, 1) := by decide +kernel
theorem dL_law_938 : decode cL_law 938 = .ok (.aload_n 0, 1) := by decide +kernel
theorem dL_law_939 : decode cL_law 939 = .ok (.iload_n 3, 1) := by decide +kernel
theorem dL_law_940 : decode cL_law 940 = .ok (.iconst 1, 1) := by decide +kernel
theorem dL_law_941 : decode cL_law 941 = .ok (.iadd, 1) := by decide +kernel
theorem dL_law_942 : decode cL_law 942 = .ok (.iaload, 1) := by decide +kernel
theorem dL_law_943 : decode cL_law 943 = .ok (.aload_n 0, 1) := by decide +kernel
theorem dL_law_944 : decode cL_law 944 = .ok (.iload_n 3, 1) := by decide +kernel
theorem dL_law_945 : decode cL_law 945 = .ok (.iconst 2, 1) := by decide +kernel
theorem dL_law_946 : decode cL_law 946 = .ok (.iadd, 1) := by decide +kernel
theorem dL_law_947 : decode cL_law 947 = .ok (.iaload, 1) := by decide +kernel
theorem dL_law_948 : decode cL_law 948 = .ok (.aload_n 0, 1) := by decide +kernel
theorem dL_law_949 : decode cL_law 949 = .ok (.iload_n 3, 1) := by decide +kernel
theorem dL_law_950 : decode cL_law 950 = .ok (.iconst 3, 1) := by decide +kernel
theorem dL_law_951 : decode cL_law 951 = .ok (.iadd, 1) := by decide +kernel
theorem dL_law_952 : decode cL_law 952 = .ok (.iaload, 1) := by decide +kernel
theorem dL_law_953 : decode cL_law 953 = .ok (.invokevirtual 98, 3) := by decide +kernel
theorem dL_law_956 : decode cL_law 956 = .ok (.aload_n 2, 1) := by decide +kernel
theorem dL_law_957 : decode cL_law 957 = .ok (.aload_n 0, 1) := by decide +kernel
theorem dL_law_958 : decode cL_law 958 = .ok (.iload_n 3, 1) := by decide +kernel
theorem dL_law_959 : decode cL_law 959 = .ok (.iconst 1, 1) := by decide +kernel
theorem dL_law_960 : decode cL_law 960 = .ok (.iadd, 1) := by decide +kernel
theorem dL_law_961 : decode cL_law 961 = .ok (.iaload, 1) := by decide +kernel
theorem dL_law_962 : decode cL_law 962 = .ok (.aload_n 0, 1) := by decide +kernel
theorem dL_law_963 : decode cL_law 963 = .ok (.iload_n 3, 1) := by decide +kernel
theorem dL_law_964 : decode cL_law 964 = .ok (.iconst 2, 1) := by decide +kernel
theorem dL_law_965 : decode cL_law 965 = .ok (.iadd, 1) := by decide +kernel
theorem dL_law_966 : decode cL_law 966 = .ok (.iaload, 1) := by decide +kernel
theorem dL_law_967 : decode cL_law 967 = .ok (.aload_n 0, 1) := by decide +kernel
theorem dL_law_968 : decode cL_law 968 = .ok (.iload_n 3, 1) := by decide +kernel
theorem dL_law_969 : decode cL_law 969 = .ok (.iconst 3, 1) := by decide +kernel
theorem dL_law_970 : decode cL_law 970 = .ok (.iadd, 1) := by decide +kernel
theorem dL_law_971 : decode cL_law 971 = .ok (.iaload, 1) := by decide +kernel
theorem dL_law_972 : decode cL_law 972 = .ok (.invokevirtual 101, 3) := by decide +kernel
theorem dL_law_975 : decode cL_law 975 = .ok (.if_icmp .eq 184, 3) := by decide +kernel
theorem dL_law_978 : decode cL_law 978 = .ok (.iconst 0, 1) := by decide +kernel
theorem dL_law_979 : decode cL_law 979 = .ok (.ireturn, 1) := by decide +kernel
theorem dL_law_980 : decode cL_law 980 = .ok (.aload_n 1, 1) := by decide +kernel
theorem dL_law_981 : decode cL_law 981 = .ok (.aload_n 0, 1) := by decide +kernel
theorem dL_law_982 : decode cL_law 982 = .ok (.iload_n 3, 1) := by decide +kernel
theorem dL_law_983 : decode cL_law 983 = .ok (.iconst 1, 1) := by decide +kernel
theorem dL_law_984 : decode cL_law 984 = .ok (.iadd, 1) := by decide +kernel
theorem dL_law_985 : decode cL_law 985 = .ok (.iaload, 1) := by decide +kernel
theorem dL_law_986 : decode cL_law 986 = .ok (.invokevirtual 102, 3) := by decide +kernel
theorem dL_law_989 : decode cL_law 989 = .ok (.aload_n 2, 1) := by decide +kernel
theorem dL_law_990 : decode cL_law 990 = .ok (.aload_n 0, 1) := by decide +kernel
theorem dL_law_991 : decode cL_law 991 = .ok (.iload_n 3, 1) := by decide +kernel
theorem dL_law_992 : decode cL_law 992 = .ok (.iconst 1, 1) := by decide +kernel
theorem dL_law_993 : decode cL_law 993 = .ok (.iadd, 1) := by decide +kernel
theorem dL_law_994 : decode cL_law 994 = .ok (.iaload, 1) := by decide +kernel
theorem dL_law_995 : decode cL_law 995 = .ok (.invokevirtual 105, 3) := by decide +kernel
theorem dL_law_998 : decode cL_law 998 = .ok (.if_icmp .eq 161, 3) := by decide +kernel
theorem dL_law_1001 : decode cL_law 1001 = .ok (.iconst 0, 1) := by decide +kernel
theorem dL_law_1002 : decode cL_law 1002 = .ok (.ireturn, 1) := by decide +kernel
theorem dL_law_1003 : decode cL_law 1003 = .ok (.aload_n 1, 1) := by decide +kernel
theorem dL_law_1004 : decode cL_law 1004 = .ok (.aload_n 0, 1) := by decide +kernel
theorem dL_law_1005 : decode cL_law 1005 = .ok (.iload_n 3, 1) := by decide +kernel
theorem dL_law_1006 : decode cL_law 1006 = .ok (.iconst 1, 1) := by decide +kernel
theorem dL_law_1007 : decode cL_law 1007 = .ok (.iadd, 1) := by decide +kernel
theorem dL_law_1008 : decode cL_law 1008 = .ok (.iaload, 1) := by decide +kernel
theorem dL_law_1009 : decode cL_law 1009 = .ok (.aload_n 0, 1) := by decide +kernel
theorem dL_law_1010 : decode cL_law 1010 = .ok (.iload_n 3, 1) := by decide +kernel
theorem dL_law_1011 : decode cL_law 1011 = .ok (.iconst 2, 1) := by decide +kernel
theorem dL_law_1012 : decode cL_law 1012 = .ok (.iadd, 1) := by decide +kernel
theorem dL_law_1013 : decode cL_law 1013 = .ok (.iaload, 1) := by decide +kernel
theorem dL_law_1014 : decode cL_law 1014 = .ok (.invokevirtual 106, 3) := by decide +kernel
theorem dL_law_1017 : decode cL_law 1017 = .ok (.aload_n 2, 1) := by decide +kernel
theorem dL_law_1018 : decode cL_law 1018 = .ok (.aload_n 0, 1) := by decide +kernel
theorem dL_law_1019 : decode cL_law 1019 = .ok (.iload_n 3, 1) := by decide +kernel
theorem dL_law_1020 : decode cL_law 1020 = .ok (.iconst 1, 1) := by decide +kernel
theorem dL_law_1021 : decode cL_law 1021 = .ok (.iadd, 1) := by decide +kernel
theorem dL_law_1022 : decode cL_law 1022 = .ok (.iaload, 1) := by decide +kernel
theorem dL_law_1023 : decode cL_law 1023 = .ok (.aload_n 0, 1) := by decide +kernel
theorem dL_law_1024 : decode cL_law 1024 = .ok (.iload_n 3, 1) := by decide +kernel
theorem dL_law_1025 : decode cL_law 1025 = .ok (.iconst 2, 1) := by decide +kernel
theorem dL_law_1026 : decode cL_law 1026 = .ok (.iadd, 1) := by decide +kernel
theorem dL_law_1027 : decode cL_law 1027 = .ok (.iaload, 1) := by decide +kernel
theorem dL_law_1028 : decode cL_law 1028 = .ok (.invokevirtual 109, 3) := by decide +kernel
theorem dL_law_1031 : decode cL_law 1031 = .ok (.if_icmp .eq 128, 3) := by decide +kernel
theorem dL_law_1034 : decode cL_law 1034 = .ok (.iconst 0, 1) := by decide +kernel
theorem dL_law_1035 : decode cL_law 1035 = .ok (.ireturn, 1) := by decide +kernel
theorem dL_law_1036 : decode cL_law 1036 = .ok (.aload_n 1, 1) := by decide +kernel
theorem dL_law_1037 : decode cL_law 1037 = .ok (.aload_n 0, 1) := by decide +kernel
theorem dL_law_1038 : decode cL_law 1038 = .ok (.iload_n 3, 1) := by decide +kernel
theorem dL_law_1039 : decode cL_law 1039 = .ok (.iconst 1, 1) := by decide +kernel
theorem dL_law_1040 : decode cL_law 1040 = .ok (.iadd, 1) := by decide +kernel
theorem dL_law_1041 : decode cL_law 1041 = .ok (.iaload, 1) := by decide +kernel
theorem dL_law_1042 : decode cL_law 1042 = .ok (.invokevirtual 110, 3) := by decide +kernel
theorem dL_law_1045 : decode cL_law 1045 = .ok (.aload_n 2, 1) := by decide +kernel
theorem dL_law_1046 : decode cL_law 1046 = .ok (.aload_n 0, 1) := by decide +kernel
theorem dL_law_1047 : decode cL_law 1047 = .ok (.iload_n 3, 1) := by decide +kernel
theorem dL_law_1048 : decode cL_law 1048 = .ok (.iconst 1, 1) := by decide +kernel
theorem dL_law_1049 : decode cL_law 1049 = .ok (.iadd, 1) := by decide +kernel
theorem dL_law_1050 : decode cL_law 1050 = .ok (.iaload, 1) := by decide +kernel
theorem dL_law_1051 : decode cL_law 1051 = .ok (.invokevirtual 113, 3) := by decide +kernel
theorem dL_law_1054 : decode cL_law 1054 = .ok (.if_icmp .eq 105, 3) := by decide +kernel
theorem dL_law_1057 : decode cL_law 1057 = .ok (.iconst 0, 1) := by decide +kernel
theorem dL_law_1058 : decode cL_law 1058 = .ok (.ireturn, 1) := by decide +kernel
theorem dL_law_1059 : decode cL_law 1059 = .ok (.aload_n 1, 1) := by decide +kernel
theorem dL_law_1060 : decode cL_law 1060 = .ok (.invokevirtual 114, 3) := by decide +kernel
theorem dL_law_1063 : decode cL_law 1063 = .ok (.aload_n 2, 1) := by decide +kernel
theorem dL_law_1064 : decode cL_law 1064 = .ok (.invokevirtual 117, 3) := by decide +kernel
theorem dL_law_1067 : decode cL_law 1067 = .ok (.if_icmp .eq 92, 3) := by decide +kernel
theorem dL_law_1070 : decode cL_law 1070 = .ok (.iconst 0, 1) := by decide +kernel
theorem dL_law_1071 : decode cL_law 1071 = .ok (.ireturn, 1) := by decide +kernel
theorem dL_law_1072 : decode cL_law 1072 = .ok (.aload_n 1, 1) := by decide +kernel
theorem dL_law_1073 : decode cL_law 1073 = .ok (.invokevirtual 118, 3) := by decide +kernel
theorem dL_law_1076 : decode cL_law 1076 = .ok (.aload_n 2, 1) := by decide +kernel
theorem dL_law_1077 : decode cL_law 1077 = .ok (.invokevirtual 122, 3) := by decide +kernel
theorem dL_law_1080 : decode cL_law 1080 = .ok (.lcmp, 1) := by decide +kernel
theorem dL_law_1081 : decode cL_law 1081 = .ok (.ifCond .eq 78, 3) := by decide +kernel
theorem dL_law_1084 : decode cL_law 1084 = .ok (.iconst 0, 1) := by decide +kernel
theorem dL_law_1085 : decode cL_law 1085 = .ok (.ireturn, 1) := by decide +kernel
theorem dL_law_1086 : decode cL_law 1086 = .ok (.aload_n 1, 1) := by decide +kernel
theorem dL_law_1087 : decode cL_law 1087 = .ok (.aload_n 0, 1) := by decide +kernel
theorem dL_law_1088 : decode cL_law 1088 = .ok (.iload_n 3, 1) := by decide +kernel
theorem dL_law_1089 : decode cL_law 1089 = .ok (.iconst 1, 1) := by decide +kernel
theorem dL_law_1090 : decode cL_law 1090 = .ok (.iadd, 1) := by decide +kernel
theorem dL_law_1091 : decode cL_law 1091 = .ok (.iaload, 1) := by decide +kernel
theorem dL_law_1092 : decode cL_law 1092 = .ok (.invokevirtual 123, 3) := by decide +kernel
theorem dL_law_1095 : decode cL_law 1095 = .ok (.aload_n 2, 1) := by decide +kernel
theorem dL_law_1096 : decode cL_law 1096 = .ok (.aload_n 0, 1) := by decide +kernel
theorem dL_law_1097 : decode cL_law 1097 = .ok (.iload_n 3, 1) := by decide +kernel
theorem dL_law_1098 : decode cL_law 1098 = .ok (.iconst 1, 1) := by decide +kernel
theorem dL_law_1099 : decode cL_law 1099 = .ok (.iadd, 1) := by decide +kernel
theorem dL_law_1100 : decode cL_law 1100 = .ok (.iaload, 1) := by decide +kernel
theorem dL_law_1101 : decode cL_law 1101 = .ok (.invokevirtual 126, 3) := by decide +kernel
theorem dL_law_1104 : decode cL_law 1104 = .ok (.if_icmp .eq 55, 3) := by decide +kernel
theorem dL_law_1107 : decode cL_law 1107 = .ok (.iconst 0, 1) := by decide +kernel
theorem dL_law_1108 : decode cL_law 1108 = .ok (.ireturn, 1) := by decide +kernel
theorem dL_law_1109 : decode cL_law 1109 = .ok (.aload_n 1, 1) := by decide +kernel
theorem dL_law_1110 : decode cL_law 1110 = .ok (.invokevirtual 127, 3) := by decide +kernel
theorem dL_law_1113 : decode cL_law 1113 = .ok (.aload_n 2, 1) := by decide +kernel
theorem dL_law_1114 : decode cL_law 1114 = .ok (.invokevirtual 130, 3) := by decide +kernel
theorem dL_law_1117 : decode cL_law 1117 = .ok (.if_icmp .eq 42, 3) := by decide +kernel
theorem dL_law_1120 : decode cL_law 1120 = .ok (.iconst 0, 1) := by decide +kernel
theorem dL_law_1121 : decode cL_law 1121 = .ok (.ireturn, 1) := by decide +kernel
theorem dL_law_1122 : decode cL_law 1122 = .ok (.aload_n 1, 1) := by decide +kernel
theorem dL_law_1123 : decode cL_law 1123 = .ok (.aload_n 0, 1) := by decide +kernel
theorem dL_law_1124 : decode cL_law 1124 = .ok (.iload_n 3, 1) := by decide +kernel
theorem dL_law_1125 : decode cL_law 1125 = .ok (.iconst 1, 1) := by decide +kernel
theorem dL_law_1126 : decode cL_law 1126 = .ok (.iadd, 1) := by decide +kernel
theorem dL_law_1127 : decode cL_law 1127 = .ok (.iaload, 1) := by decide +kernel
theorem dL_law_1128 : decode cL_law 1128 = .ok (.invokevirtual 131, 3) := by decide +kernel
theorem dL_law_1131 : decode cL_law 1131 = .ok (.aload_n 2, 1) := by decide +kernel
theorem dL_law_1132 : decode cL_law 1132 = .ok (.aload_n 0, 1) := by decide +kernel
theorem dL_law_1133 : decode cL_law 1133 = .ok (.iload_n 3, 1) := by decide +kernel
theorem dL_law_1134 : decode cL_law 1134 = .ok (.iconst 1, 1) := by decide +kernel
theorem dL_law_1135 : decode cL_law 1135 = .ok (.iadd, 1) := by decide +kernel
theorem dL_law_1136 : decode cL_law 1136 = .ok (.iaload, 1) := by decide +kernel
theorem dL_law_1137 : decode cL_law 1137 = .ok (.invokevirtual 134, 3) := by decide +kernel
theorem dL_law_1140 : decode cL_law 1140 = .ok (.if_icmp .eq 19, 3) := by decide +kernel
theorem dL_law_1143 : decode cL_law 1143 = .ok (.iconst 0, 1) := by decide +kernel
theorem dL_law_1144 : decode cL_law 1144 = .ok (.ireturn, 1) := by decide +kernel
theorem dL_law_1145 : decode cL_law 1145 = .ok (.aload_n 1, 1) := by decide +kernel
theorem dL_law_1146 : decode cL_law 1146 = .ok (.invokevirtual 135, 3) := by decide +kernel
theorem dL_law_1149 : decode cL_law 1149 = .ok (.aload_n 2, 1) := by decide +kernel
theorem dL_law_1150 : decode cL_law 1150 = .ok (.invokevirtual 138, 3) := by decide +kernel
theorem dL_law_1153 : decode cL_law 1153 = .ok (.lcmp, 1) := by decide +kernel
theorem dL_law_1154 : decode cL_law 1154 = .ok (.ifCond .eq 5, 3) := by decide +kernel
theorem dL_law_1157 : decode cL_law 1157 = .ok (.iconst 0, 1) := by decide +kernel
theorem dL_law_1158 : decode cL_law 1158 = .ok (.ireturn, 1) := by decide +kernel
theorem dL_law_1159 : decode cL_law 1159 = .ok (.iinc 3 8, 3) := by decide +kernel
theorem dL_law_1162 : decode cL_law 1162 = .ok (.goto (-1144), 3) := by decide +kernel
theorem dL_law_1165 : decode cL_law 1165 = .ok (.iconst 1, 1) := by decide +kernel
theorem dL_law_1166 : decode cL_law 1166 = .ok (.ireturn, 1) := by decide +kernel
abbrev vwCl : List vw_C := [(RJx4a65c, TJx4a65c, 3), (RX0, TX0, 6), (RX1, TX1, 2), (RX2, TX2, 3), (RX3, TX3, 14), (RX4, TX4, 2), (RX5, TX5, 12), (RX6, TX6, 31)]
end
