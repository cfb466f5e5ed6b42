section
-- ===== PART A: goes FIRST, ahead of the names: the tables' words, and 'selects' of the private methods out of them =====
/-- a private method of a class that the tables say can be made, by its rows of tables_1 -/
def lw_okq (q : MethodName × Nat) : Prop := (q.1.cls ≠ "java/lang/invoke/MethodHandle" ∧ q.1.cls ≠ "java/lang/invoke/VarHandle") ∧ Cond.instantiable q.1.cls q.2 ∈ tables_1 ∧ Cond.privateMethod q.1 ∈ tables_1 ∧ Cond.instanceMethod q.1 ∈ tables_1
theorem lw_p0 : lw_okq (⟨"SafetyPins$Script", "canBegin", "(I)Z"⟩, 2) := ⟨⟨by decide +kernel, by decide +kernel⟩, List.mem_of_getElem? (i := 20) (by decide +kernel), List.mem_of_getElem? (i := 221) (by decide +kernel), List.mem_of_getElem? (i := 222) (by decide +kernel)⟩
theorem lw_p1 : lw_okq (⟨"SafetyPins$Script", "canGoOn", "(II)Z"⟩, 2) := ⟨⟨by decide +kernel, by decide +kernel⟩, List.mem_of_getElem? (i := 20) (by decide +kernel), List.mem_of_getElem? (i := 231) (by decide +kernel), List.mem_of_getElem? (i := 232) (by decide +kernel)⟩
theorem lw_p2 : lw_okq (⟨"SafetyPins$Town", "addPin", "(LSafetyPins$Script;I)V"⟩, 11) := ⟨⟨by decide +kernel, by decide +kernel⟩, List.mem_of_getElem? (i := 37) (by decide +kernel), List.mem_of_getElem? (i := 247) (by decide +kernel), List.mem_of_getElem? (i := 248) (by decide +kernel)⟩
theorem lw_p3 : lw_okq (⟨"SafetyPins", "isPin", "(I)Z"⟩, 12) := ⟨⟨by decide +kernel, by decide +kernel⟩, List.mem_of_getElem? (i := 12) (by decide +kernel), List.mem_of_getElem? (i := 264) (by decide +kernel), List.mem_of_getElem? (i := 265) (by decide +kernel)⟩
theorem lw_p4 : lw_okq (⟨"SafetyPins$Forces", "springShut", "(LSafetyPins$Plight;)V"⟩, 2) := ⟨⟨by decide +kernel, by decide +kernel⟩, List.mem_of_getElem? (i := 91) (by decide +kernel), List.mem_of_getElem? (i := 313) (by decide +kernel), List.mem_of_getElem? (i := 314) (by decide +kernel)⟩
theorem lw_p5 : lw_okq (⟨"SafetyPins$Forces", "givingNow", "(LSafetyPins$Plight;)I"⟩, 2) := ⟨⟨by decide +kernel, by decide +kernel⟩, List.mem_of_getElem? (i := 91) (by decide +kernel), List.mem_of_getElem? (i := 338) (by decide +kernel), List.mem_of_getElem? (i := 339) (by decide +kernel)⟩
theorem lw_p6 : lw_okq (⟨"SafetyPins$Forces", "loadOf", "(I)I"⟩, 2) := ⟨⟨by decide +kernel, by decide +kernel⟩, List.mem_of_getElem? (i := 91) (by decide +kernel), List.mem_of_getElem? (i := 343) (by decide +kernel), List.mem_of_getElem? (i := 344) (by decide +kernel)⟩
theorem lw_p7 : lw_okq (⟨"SafetyPins$Forces", "wearDown", "(LSafetyPins$Plight;)V"⟩, 2) := ⟨⟨by decide +kernel, by decide +kernel⟩, List.mem_of_getElem? (i := 91) (by decide +kernel), List.mem_of_getElem? (i := 352) (by decide +kernel), List.mem_of_getElem? (i := 353) (by decide +kernel)⟩
theorem lw_p8 : lw_okq (⟨"SafetyPins", "isBetterCut", "(II)Z"⟩, 12) := ⟨⟨by decide +kernel, by decide +kernel⟩, List.mem_of_getElem? (i := 12) (by decide +kernel), List.mem_of_getElem? (i := 416) (by decide +kernel), List.mem_of_getElem? (i := 417) (by decide +kernel)⟩
theorem lw_p9 : lw_okq (⟨"SafetyPins", "firstThatParts", "(III)I"⟩, 12) := ⟨⟨by decide +kernel, by decide +kernel⟩, List.mem_of_getElem? (i := 12) (by decide +kernel), List.mem_of_getElem? (i := 429) (by decide +kernel), List.mem_of_getElem? (i := 430) (by decide +kernel)⟩
theorem lw_p10 : lw_okq (⟨"SafetyPins", "comesTrue", "(III)Z"⟩, 12) := ⟨⟨by decide +kernel, by decide +kernel⟩, List.mem_of_getElem? (i := 12) (by decide +kernel), List.mem_of_getElem? (i := 449) (by decide +kernel), List.mem_of_getElem? (i := 450) (by decide +kernel)⟩
theorem lw_p11 : lw_okq (⟨"SafetyPins", "closesInThought", "(I)Z"⟩, 12) := ⟨⟨by decide +kernel, by decide +kernel⟩, List.mem_of_getElem? (i := 12) (by decide +kernel), List.mem_of_getElem? (i := 453) (by decide +kernel), List.mem_of_getElem? (i := 454) (by decide +kernel)⟩
theorem lw_p12 : lw_okq (⟨"SafetyPins", "unpinsInThought", "(I)Z"⟩, 12) := ⟨⟨by decide +kernel, by decide +kernel⟩, List.mem_of_getElem? (i := 12) (by decide +kernel), List.mem_of_getElem? (i := 457) (by decide +kernel), List.mem_of_getElem? (i := 458) (by decide +kernel)⟩
theorem lw_p13 : lw_okq (⟨"SafetyPins", "pairsBroughtInAllOrders", "(III)J"⟩, 12) := ⟨⟨by decide +kernel, by decide +kernel⟩, List.mem_of_getElem? (i := 12) (by decide +kernel), List.mem_of_getElem? (i := 494) (by decide +kernel), List.mem_of_getElem? (i := 495) (by decide +kernel)⟩
theorem lw_p14 : lw_okq (⟨"SafetyPins", "reckonGains", "(II)V"⟩, 12) := ⟨⟨by decide +kernel, by decide +kernel⟩, List.mem_of_getElem? (i := 12) (by decide +kernel), List.mem_of_getElem? (i := 509) (by decide +kernel), List.mem_of_getElem? (i := 510) (by decide +kernel)⟩
theorem lw_p15 : lw_okq (⟨"SafetyPins", "priceOfBeingAlone", "(I)I"⟩, 12) := ⟨⟨by decide +kernel, by decide +kernel⟩, List.mem_of_getElem? (i := 12) (by decide +kernel), List.mem_of_getElem? (i := 514) (by decide +kernel), List.mem_of_getElem? (i := 515) (by decide +kernel)⟩
def lw_privs_1 : List (MethodName × Nat) := [(⟨"SafetyPins$Script", "canBegin", "(I)Z"⟩, 2), (⟨"SafetyPins$Script", "canGoOn", "(II)Z"⟩, 2), (⟨"SafetyPins$Town", "addPin", "(LSafetyPins$Script;I)V"⟩, 11), (⟨"SafetyPins", "isPin", "(I)Z"⟩, 12), (⟨"SafetyPins$Forces", "springShut", "(LSafetyPins$Plight;)V"⟩, 2), (⟨"SafetyPins$Forces", "givingNow", "(LSafetyPins$Plight;)I"⟩, 2), (⟨"SafetyPins$Forces", "loadOf", "(I)I"⟩, 2), (⟨"SafetyPins$Forces", "wearDown", "(LSafetyPins$Plight;)V"⟩, 2), (⟨"SafetyPins", "isBetterCut", "(II)Z"⟩, 12), (⟨"SafetyPins", "firstThatParts", "(III)I"⟩, 12), (⟨"SafetyPins", "comesTrue", "(III)Z"⟩, 12), (⟨"SafetyPins", "closesInThought", "(I)Z"⟩, 12), (⟨"SafetyPins", "unpinsInThought", "(I)Z"⟩, 12), (⟨"SafetyPins", "pairsBroughtInAllOrders", "(III)J"⟩, 12), (⟨"SafetyPins", "reckonGains", "(II)V"⟩, 12), (⟨"SafetyPins", "priceOfBeingAlone", "(I)I"⟩, 12)]
theorem lw_r1 : ∀ q ∈ lw_privs_1, lw_okq q := List.forall_mem_cons.mpr ⟨lw_p0, List.forall_mem_cons.mpr ⟨lw_p1, List.forall_mem_cons.mpr ⟨lw_p2, List.forall_mem_cons.mpr ⟨lw_p3, List.forall_mem_cons.mpr ⟨lw_p4, List.forall_mem_cons.mpr ⟨lw_p5, List.forall_mem_cons.mpr ⟨lw_p6, List.forall_mem_cons.mpr ⟨lw_p7, List.forall_mem_cons.mpr ⟨lw_p8, List.forall_mem_cons.mpr ⟨lw_p9, List.forall_mem_cons.mpr ⟨lw_p10, List.forall_mem_cons.mpr ⟨lw_p11, List.forall_mem_cons.mpr ⟨lw_p12, List.forall_mem_cons.mpr ⟨lw_p13, List.forall_mem_cons.mpr ⟨lw_p14, List.forall_mem_cons.mpr ⟨lw_p15, fun _ h => absurd h List.not_mem_nil⟩⟩⟩⟩⟩⟩⟩⟩⟩⟩⟩⟩⟩⟩⟩⟩
theorem lw_p16 : lw_okq (⟨"SafetyPins", "isAtRest", "(II)Z"⟩, 12) := ⟨⟨by decide +kernel, by decide +kernel⟩, List.mem_of_getElem? (i := 12) (by decide +kernel), List.mem_of_getElem? (i := 518) (by decide +kernel), List.mem_of_getElem? (i := 519) (by decide +kernel)⟩
theorem lw_p17 : lw_okq (⟨"SafetyPins", "passSeason", "(I)V"⟩, 12) := ⟨⟨by decide +kernel, by decide +kernel⟩, List.mem_of_getElem? (i := 12) (by decide +kernel), List.mem_of_getElem? (i := 539) (by decide +kernel), List.mem_of_getElem? (i := 540) (by decide +kernel)⟩
theorem lw_p18 : lw_okq (⟨"SafetyPinsModel", "readText", "()I"⟩, 32) := ⟨⟨by decide +kernel, by decide +kernel⟩, List.mem_of_getElem? (i := 559) (by decide +kernel), List.mem_of_getElem? (i := 678) (by decide +kernel), List.mem_of_getElem? (i := 679) (by decide +kernel)⟩
theorem lw_p19 : lw_okq (⟨"SafetyPinsModel", "readPart", "(I)V"⟩, 32) := ⟨⟨by decide +kernel, by decide +kernel⟩, List.mem_of_getElem? (i := 559) (by decide +kernel), List.mem_of_getElem? (i := 682) (by decide +kernel), List.mem_of_getElem? (i := 683) (by decide +kernel)⟩
theorem lw_p20 : lw_okq (⟨"SafetyPinsModel", "figureOf", "(II)I"⟩, 32) := ⟨⟨by decide +kernel, by decide +kernel⟩, List.mem_of_getElem? (i := 559) (by decide +kernel), List.mem_of_getElem? (i := 686) (by decide +kernel), List.mem_of_getElem? (i := 687) (by decide +kernel)⟩
theorem lw_p21 : lw_okq (⟨"SafetyPinsModel", "isPin", "(I)Z"⟩, 32) := ⟨⟨by decide +kernel, by decide +kernel⟩, List.mem_of_getElem? (i := 559) (by decide +kernel), List.mem_of_getElem? (i := 698) (by decide +kernel), List.mem_of_getElem? (i := 699) (by decide +kernel)⟩
theorem lw_p22 : lw_okq (⟨"SafetyPinsModel", "holdsOn", "(II)I"⟩, 32) := ⟨⟨by decide +kernel, by decide +kernel⟩, List.mem_of_getElem? (i := 559) (by decide +kernel), List.mem_of_getElem? (i := 702) (by decide +kernel), List.mem_of_getElem? (i := 703) (by decide +kernel)⟩
theorem lw_p23 : lw_okq (⟨"SafetyPinsModel", "withBy", "(II)I"⟩, 32) := ⟨⟨by decide +kernel, by decide +kernel⟩, List.mem_of_getElem? (i := 559) (by decide +kernel), List.mem_of_getElem? (i := 714) (by decide +kernel), List.mem_of_getElem? (i := 715) (by decide +kernel)⟩
theorem lw_p24 : lw_okq (⟨"SafetyPinsModel", "keepAct", "()V"⟩, 32) := ⟨⟨by decide +kernel, by decide +kernel⟩, List.mem_of_getElem? (i := 559) (by decide +kernel), List.mem_of_getElem? (i := 725) (by decide +kernel), List.mem_of_getElem? (i := 726) (by decide +kernel)⟩
theorem lw_p25 : lw_okq (⟨"SafetyPinsModel", "passOn", "(I)I"⟩, 32) := ⟨⟨by decide +kernel, by decide +kernel⟩, List.mem_of_getElem? (i := 559) (by decide +kernel), List.mem_of_getElem? (i := 729) (by decide +kernel), List.mem_of_getElem? (i := 730) (by decide +kernel)⟩
theorem lw_p26 : lw_okq (⟨"SafetyPinsModel", "unload", "()V"⟩, 32) := ⟨⟨by decide +kernel, by decide +kernel⟩, List.mem_of_getElem? (i := 559) (by decide +kernel), List.mem_of_getElem? (i := 733) (by decide +kernel), List.mem_of_getElem? (i := 734) (by decide +kernel)⟩
theorem lw_p27 : lw_okq (⟨"SafetyPinsModel", "ping", "(I)I"⟩, 32) := ⟨⟨by decide +kernel, by decide +kernel⟩, List.mem_of_getElem? (i := 559) (by decide +kernel), List.mem_of_getElem? (i := 737) (by decide +kernel), List.mem_of_getElem? (i := 738) (by decide +kernel)⟩
theorem lw_p28 : lw_okq (⟨"SafetyPinsModel", "onBoth", "(I)I"⟩, 32) := ⟨⟨by decide +kernel, by decide +kernel⟩, List.mem_of_getElem? (i := 559) (by decide +kernel), List.mem_of_getElem? (i := 741) (by decide +kernel), List.mem_of_getElem? (i := 742) (by decide +kernel)⟩
theorem lw_p29 : lw_okq (⟨"SafetyPinsModel", "tugOn", "(III)I"⟩, 32) := ⟨⟨by decide +kernel, by decide +kernel⟩, List.mem_of_getElem? (i := 559) (by decide +kernel), List.mem_of_getElem? (i := 753) (by decide +kernel), List.mem_of_getElem? (i := 754) (by decide +kernel)⟩
theorem lw_p30 : lw_okq (⟨"SafetyPinsModel", "shutOn", "(II)V"⟩, 32) := ⟨⟨by decide +kernel, by decide +kernel⟩, List.mem_of_getElem? (i := 559) (by decide +kernel), List.mem_of_getElem? (i := 761) (by decide +kernel), List.mem_of_getElem? (i := 762) (by decide +kernel)⟩
theorem lw_p31 : lw_okq (⟨"SafetyPinsModel", "layTrial", "()V"⟩, 32) := ⟨⟨by decide +kernel, by decide +kernel⟩, List.mem_of_getElem? (i := 559) (by decide +kernel), List.mem_of_getElem? (i := 778) (by decide +kernel), List.mem_of_getElem? (i := 779) (by decide +kernel)⟩
def lw_privs_2 : List (MethodName × Nat) := [(⟨"SafetyPins", "isAtRest", "(II)Z"⟩, 12), (⟨"SafetyPins", "passSeason", "(I)V"⟩, 12), (⟨"SafetyPinsModel", "readText", "()I"⟩, 32), (⟨"SafetyPinsModel", "readPart", "(I)V"⟩, 32), (⟨"SafetyPinsModel", "figureOf", "(II)I"⟩, 32), (⟨"SafetyPinsModel", "isPin", "(I)Z"⟩, 32), (⟨"SafetyPinsModel", "holdsOn", "(II)I"⟩, 32), (⟨"SafetyPinsModel", "withBy", "(II)I"⟩, 32), (⟨"SafetyPinsModel", "keepAct", "()V"⟩, 32), (⟨"SafetyPinsModel", "passOn", "(I)I"⟩, 32), (⟨"SafetyPinsModel", "unload", "()V"⟩, 32), (⟨"SafetyPinsModel", "ping", "(I)I"⟩, 32), (⟨"SafetyPinsModel", "onBoth", "(I)I"⟩, 32), (⟨"SafetyPinsModel", "tugOn", "(III)I"⟩, 32), (⟨"SafetyPinsModel", "shutOn", "(II)V"⟩, 32), (⟨"SafetyPinsModel", "layTrial", "()V"⟩, 32)]
theorem lw_r2 : ∀ q ∈ lw_privs_2, lw_okq q := List.forall_mem_cons.mpr ⟨lw_p16, List.forall_mem_cons.mpr ⟨lw_p17, List.forall_mem_cons.mpr ⟨lw_p18, List.forall_mem_cons.mpr ⟨lw_p19, List.forall_mem_cons.mpr ⟨lw_p20, List.forall_mem_cons.mpr ⟨lw_p21, List.forall_mem_cons.mpr ⟨lw_p22, List.forall_mem_cons.mpr ⟨lw_p23, List.forall_mem_cons.mpr ⟨lw_p24, List.forall_mem_cons.mpr ⟨lw_p25, List.forall_mem_cons.mpr ⟨lw_p26, List.forall_mem_cons.mpr ⟨lw_p27, List.forall_mem_cons.mpr ⟨lw_p28, List.forall_mem_cons.mpr ⟨lw_p29, List.forall_mem_cons.mpr ⟨lw_p30, List.forall_mem_cons.mpr ⟨lw_p31, fun _ h => absurd h List.not_mem_nil⟩⟩⟩⟩⟩⟩⟩⟩⟩⟩⟩⟩⟩⟩⟩⟩
theorem lw_p32 : lw_okq (⟨"SafetyPinsModel", "all", "()I"⟩, 32) := ⟨⟨by decide +kernel, by decide +kernel⟩, List.mem_of_getElem? (i := 559) (by decide +kernel), List.mem_of_getElem? (i := 794) (by decide +kernel), List.mem_of_getElem? (i := 795) (by decide +kernel)⟩
theorem lw_p33 : lw_okq (⟨"SafetyPinsModel", "isTogether", "(III)Z"⟩, 32) := ⟨⟨by decide +kernel, by decide +kernel⟩, List.mem_of_getElem? (i := 559) (by decide +kernel), List.mem_of_getElem? (i := 798) (by decide +kernel), List.mem_of_getElem? (i := 799) (by decide +kernel)⟩
theorem lw_p34 : lw_okq (⟨"SafetyPinsModel", "doableBy", "(I)I"⟩, 32) := ⟨⟨by decide +kernel, by decide +kernel⟩, List.mem_of_getElem? (i := 559) (by decide +kernel), List.mem_of_getElem? (i := 810) (by decide +kernel), List.mem_of_getElem? (i := 811) (by decide +kernel)⟩
theorem lw_p35 : lw_okq (⟨"SafetyPinsModel", "tryThing", "(III)Z"⟩, 32) := ⟨⟨by decide +kernel, by decide +kernel⟩, List.mem_of_getElem? (i := 559) (by decide +kernel), List.mem_of_getElem? (i := 823) (by decide +kernel), List.mem_of_getElem? (i := 824) (by decide +kernel)⟩
theorem lw_p36 : lw_okq (⟨"SafetyPinsModel", "pairsBy", "(I)I"⟩, 32) := ⟨⟨by decide +kernel, by decide +kernel⟩, List.mem_of_getElem? (i := 559) (by decide +kernel), List.mem_of_getElem? (i := 847) (by decide +kernel), List.mem_of_getElem? (i := 848) (by decide +kernel)⟩
theorem lw_p37 : lw_okq (⟨"SafetyPinsModel", "isRest", "(IIII)Z"⟩, 32) := ⟨⟨by decide +kernel, by decide +kernel⟩, List.mem_of_getElem? (i := 559) (by decide +kernel), List.mem_of_getElem? (i := 858) (by decide +kernel), List.mem_of_getElem? (i := 859) (by decide +kernel)⟩
theorem lw_p38 : lw_okq (⟨"SafetyPinsModel", "gain", "(IIII)I"⟩, 32) := ⟨⟨by decide +kernel, by decide +kernel⟩, List.mem_of_getElem? (i := 559) (by decide +kernel), List.mem_of_getElem? (i := 862) (by decide +kernel), List.mem_of_getElem? (i := 863) (by decide +kernel)⟩
theorem lw_p39 : lw_okq (⟨"SafetyPinsModel", "wearOfAll", "()I"⟩, 32) := ⟨⟨by decide +kernel, by decide +kernel⟩, List.mem_of_getElem? (i := 559) (by decide +kernel), List.mem_of_getElem? (i := 898) (by decide +kernel), List.mem_of_getElem? (i := 899) (by decide +kernel)⟩
def lw_privs_3 : List (MethodName × Nat) := [(⟨"SafetyPinsModel", "all", "()I"⟩, 32), (⟨"SafetyPinsModel", "isTogether", "(III)Z"⟩, 32), (⟨"SafetyPinsModel", "doableBy", "(I)I"⟩, 32), (⟨"SafetyPinsModel", "tryThing", "(III)Z"⟩, 32), (⟨"SafetyPinsModel", "pairsBy", "(I)I"⟩, 32), (⟨"SafetyPinsModel", "isRest", "(IIII)Z"⟩, 32), (⟨"SafetyPinsModel", "gain", "(IIII)I"⟩, 32), (⟨"SafetyPinsModel", "wearOfAll", "()I"⟩, 32)]
theorem lw_r3 : ∀ q ∈ lw_privs_3, lw_okq q := List.forall_mem_cons.mpr ⟨lw_p32, List.forall_mem_cons.mpr ⟨lw_p33, List.forall_mem_cons.mpr ⟨lw_p34, List.forall_mem_cons.mpr ⟨lw_p35, List.forall_mem_cons.mpr ⟨lw_p36, List.forall_mem_cons.mpr ⟨lw_p37, List.forall_mem_cons.mpr ⟨lw_p38, List.forall_mem_cons.mpr ⟨lw_p39, fun _ h => absurd h List.not_mem_nil⟩⟩⟩⟩⟩⟩⟩⟩
def lw_privs : List (MethodName × Nat) := lw_privs_1 ++ (lw_privs_2 ++ (lw_privs_3))
def lw_tbl : List Cond := k2_sels lw_privs ++ tables_1
theorem lw_privs_ok : ∀ q ∈ lw_privs, lw_okq q := by
  show ∀ q ∈ lw_privs_1 ++ (lw_privs_2 ++ (lw_privs_3)), lw_okq q
  exact List.forall_mem_append.mpr ⟨lw_r1, List.forall_mem_append.mpr ⟨lw_r2, lw_r3⟩⟩
-- ===== end of PART A; then your names; then what follows =====
/-! ===== BEGIN printed: names, fields, word lists, decode rows ===== -/
def RX0 : String := "SafetyPins$Acts"
def TX0 : u_T := fun k => match k with
  | 0 => ("SafetyPins$Acts", "befores", "[LSafetyPins$Plight;", true)
  | 1 => ("SafetyPins$Acts", "top", "I", false)
  | _ => ("SafetyPins$Acts", "length", "I", false)
def tyX0 : Nat → FieldType := fun k => match k with
  | 0 => .array (.object "SafetyPins$Plight")
  | 1 => .int
  | _ => .int
theorem nmX0 : ∀ a, a < 3 → ∀ b, b < 3 → a ≠ b → (TX0 a).2.1 ≠ (TX0 b).2.1 := by decide +kernel
theorem tyX0_ok : ∀ k, k < 3 → parseFieldDescriptor (TX0 k).2.2.1 = some (tyX0 k) := by decide +kernel
abbrev cX0_init : ByteArray := prog_2_method_1_code
def yX0_init : MethodName := ⟨RX0, "<init>", "()V"⟩
abbrev cX0_forget : ByteArray := prog_2_method_2_code
def yX0_forget : MethodName := ⟨RX0, "forget", "()V"⟩
abbrev cX0_remember : ByteArray := prog_2_method_3_code
def yX0_remember : MethodName := ⟨RX0, "remember", "(LSafetyPins$Plight;)V"⟩
abbrev cX0_takeBack : ByteArray := prog_2_method_4_code
def yX0_takeBack : MethodName := ⟨RX0, "takeBack", "(LSafetyPins$Plight;)V"⟩
def RX1 : String := "SafetyPins$Forces"
def TX1 : u_T := fun k => match k with
  | 0 => ("SafetyPins$Forces", "town", "LSafetyPins$Town;", true)
  | _ => ("SafetyPins$Forces", "loads", "[I", true)
def tyX1 : Nat → FieldType := fun k => match k with
  | 0 => .object "SafetyPins$Town"
  | _ => .array .int
theorem nmX1 : ∀ a, a < 2 → ∀ b, b < 2 → a ≠ b → (TX1 a).2.1 ≠ (TX1 b).2.1 := by decide +kernel
theorem tyX1_ok : ∀ k, k < 2 → parseFieldDescriptor (TX1 k).2.2.1 = some (tyX1 k) := by decide +kernel
abbrev cX1_init : ByteArray := prog_3_method_1_code
def yX1_init : MethodName := ⟨RX1, "<init>", "(LSafetyPins$Town;)V"⟩
abbrev cX1_clear : ByteArray := prog_3_method_2_code
def yX1_clear : MethodName := ⟨RX1, "clear", "()V"⟩
abbrev cX1_burden : ByteArray := prog_3_method_3_code
def yX1_burden : MethodName := ⟨RX1, "burden", "(II)V"⟩
abbrev cX1_burdenEnds : ByteArray := prog_3_method_4_code
def yX1_burdenEnds : MethodName := ⟨RX1, "burdenEnds", "(I)V"⟩
abbrev cX1_loadOf : ByteArray := prog_3_method_5_code
def yX1_loadOf : MethodName := ⟨RX1, "loadOf", "(I)I"⟩
abbrev cX1_ping : ByteArray := prog_3_method_6_code
def yX1_ping : MethodName := ⟨RX1, "ping", "(LSafetyPins$Plight;)I"⟩
abbrev cX1_givingNow : ByteArray := prog_3_method_7_code
def yX1_givingNow : MethodName := ⟨RX1, "givingNow", "(LSafetyPins$Plight;)I"⟩
abbrev cX1_pullAt : ByteArray := prog_3_method_8_code
def yX1_pullAt : MethodName := ⟨RX1, "pullAt", "(LSafetyPins$Plight;II)I"⟩
abbrev cX1_passDay : ByteArray := prog_3_method_9_code
def yX1_passDay : MethodName := ⟨RX1, "passDay", "(LSafetyPins$Plight;)I"⟩
abbrev cX1_springShut : ByteArray := prog_3_method_10_code
def yX1_springShut : MethodName := ⟨RX1, "springShut", "(LSafetyPins$Plight;)V"⟩
abbrev cX1_wearDown : ByteArray := prog_3_method_11_code
def yX1_wearDown : MethodName := ⟨RX1, "wearDown", "(LSafetyPins$Plight;)V"⟩
def RX2 : String := "SafetyPins$Plight"
def TX2 : u_T := fun k => match k with
  | 0 => ("SafetyPins$Plight", "open", "I", false)
  | 1 => ("SafetyPins$Plight", "wear", "[I", true)
  | _ => ("SafetyPins$Plight", "dayNumber", "I", false)
def tyX2 : Nat → FieldType := fun k => match k with
  | 0 => .int
  | 1 => .array .int
  | _ => .int
theorem nmX2 : ∀ a, a < 3 → ∀ b, b < 3 → a ≠ b → (TX2 a).2.1 ≠ (TX2 b).2.1 := by decide +kernel
theorem tyX2_ok : ∀ k, k < 3 → parseFieldDescriptor (TX2 k).2.2.1 = some (tyX2 k) := by decide +kernel
abbrev cX2_init : ByteArray := prog_4_method_1_code
def yX2_init : MethodName := ⟨RX2, "<init>", "()V"⟩
abbrev cX2_begin : ByteArray := prog_4_method_2_code
def yX2_begin : MethodName := ⟨RX2, "begin", "()V"⟩
abbrev cX2_become : ByteArray := prog_4_method_3_code
def yX2_become : MethodName := ⟨RX2, "become", "(LSafetyPins$Plight;)V"⟩
abbrev cX2_isOpen : ByteArray := prog_4_method_4_code
def yX2_isOpen : MethodName := ⟨RX2, "isOpen", "(I)Z"⟩
abbrev cX2_close : ByteArray := prog_4_method_5_code
def yX2_close : MethodName := ⟨RX2, "close", "(I)V"⟩
abbrev cX2_unpin : ByteArray := prog_4_method_6_code
def yX2_unpin : MethodName := ⟨RX2, "unpin", "(I)V"⟩
abbrev cX2_wearOfAll : ByteArray := prog_4_method_7_code
def yX2_wearOfAll : MethodName := ⟨RX2, "wearOfAll", "()I"⟩
def RX3 : String := "SafetyPins$Script"
def TX3 : u_T := fun k => match k with
  | 0 => ("SafetyPins$Script", "letters", "[I", true)
  | _ => ("SafetyPins$Script", "length", "I", false)
def tyX3 : Nat → FieldType := fun k => match k with
  | 0 => .array .int
  | _ => .int
theorem nmX3 : ∀ a, a < 2 → ∀ b, b < 2 → a ≠ b → (TX3 a).2.1 ≠ (TX3 b).2.1 := by decide +kernel
theorem tyX3_ok : ∀ k, k < 2 → parseFieldDescriptor (TX3 k).2.2.1 = some (tyX3 k) := by decide +kernel
abbrev cX3_init : ByteArray := prog_5_method_1_code
def yX3_init : MethodName := ⟨RX3, "<init>", "()V"⟩
abbrev cX3_add : ByteArray := prog_5_method_2_code
def yX3_add : MethodName := ⟨RX3, "add", "(I)V"⟩
abbrev cX3_figure : ByteArray := prog_5_method_3_code
def yX3_figure : MethodName := ⟨RX3, "figure", "(I)I"⟩
abbrev cX3_sizeOfPart : ByteArray := prog_5_method_4_code
def yX3_sizeOfPart : MethodName := ⟨RX3, "sizeOfPart", "(I)I"⟩
abbrev cX3_mostOf : ByteArray := prog_5_method_5_code
def yX3_mostOf : MethodName := ⟨RX3, "mostOf", "(I)I"⟩
abbrev cX3_firstFault : ByteArray := prog_5_method_6_code
def yX3_firstFault : MethodName := ⟨RX3, "firstFault", "()I"⟩
abbrev cX3_canBegin : ByteArray := prog_5_method_7_code
def yX3_canBegin : MethodName := ⟨RX3, "canBegin", "(I)Z"⟩
abbrev cX3_canGoOn : ByteArray := prog_5_method_8_code
def yX3_canGoOn : MethodName := ⟨RX3, "canGoOn", "(II)Z"⟩
def RX4 : String := "SafetyPins$Town"
def TX4 : u_T := fun k => match k with
  | 0 => ("SafetyPins$Town", "pins", "I", false)
  | 1 => ("SafetyPins$Town", "one", "[I", true)
  | 2 => ("SafetyPins$Town", "other", "[I", true)
  | 3 => ("SafetyPins$Town", "strength", "[I", true)
  | 4 => ("SafetyPins$Town", "kind", "[I", true)
  | 5 => ("SafetyPins$Town", "pulls", "I", false)
  | 6 => ("SafetyPins$Town", "pullThing", "[I", true)
  | 7 => ("SafetyPins$Town", "pullLoad", "[I", true)
  | 8 => ("SafetyPins$Town", "deeds", "I", false)
  | 9 => ("SafetyPins$Town", "deedOne", "[I", true)
  | _ => ("SafetyPins$Town", "deedOther", "[I", true)
def tyX4 : Nat → FieldType := fun k => match k with
  | 0 => .int
  | 1 => .array .int
  | 2 => .array .int
  | 3 => .array .int
  | 4 => .array .int
  | 5 => .int
  | 6 => .array .int
  | 7 => .array .int
  | 8 => .int
  | 9 => .array .int
  | _ => .array .int
theorem nmX4 : ∀ a, a < 11 → ∀ b, b < 11 → a ≠ b → (TX4 a).2.1 ≠ (TX4 b).2.1 := by decide +kernel
theorem tyX4_ok : ∀ k, k < 11 → parseFieldDescriptor (TX4 k).2.2.1 = some (tyX4 k) := by decide +kernel
abbrev cX4_init : ByteArray := prog_6_method_1_code
def yX4_init : MethodName := ⟨RX4, "<init>", "()V"⟩
abbrev cX4_readFrom : ByteArray := prog_6_method_2_code
def yX4_readFrom : MethodName := ⟨RX4, "readFrom", "(LSafetyPins$Script;)V"⟩
abbrev cX4_addPin : ByteArray := prog_6_method_3_code
def yX4_addPin : MethodName := ⟨RX4, "addPin", "(LSafetyPins$Script;I)V"⟩
abbrev cX4_allPins : ByteArray := prog_6_method_4_code
def yX4_allPins : MethodName := ⟨RX4, "allPins", "()I"⟩
abbrev cX4_holds : ByteArray := prog_6_method_5_code
def yX4_holds : MethodName := ⟨RX4, "holds", "(II)I"⟩
abbrev cX4_endsOf : ByteArray := prog_6_method_6_code
def yX4_endsOf : MethodName := ⟨RX4, "endsOf", "(I)I"⟩
abbrev cX4_reach : ByteArray := prog_6_method_7_code
def yX4_reach : MethodName := ⟨RX4, "reach", "(II)I"⟩
abbrev cX4_areTogether : ByteArray := prog_6_method_8_code
def yX4_areTogether : MethodName := ⟨RX4, "areTogether", "(III)Z"⟩
abbrev cX4_pairsTogether : ByteArray := prog_6_method_9_code
def yX4_pairsTogether : MethodName := ⟨RX4, "pairsTogether", "(I)I"⟩
abbrev cX4_doable : ByteArray := prog_6_method_10_code
def yX4_doable : MethodName := ⟨RX4, "doable", "(I)I"⟩
def RX5 : String := "SafetyPins$Trials"
def TX5 : u_T := fun k => match k with
  | 0 => ("SafetyPins$Trials", "load", "[I", true)
  | 1 => ("SafetyPins$Trials", "gave", "[Z", true)
  | _ => ("SafetyPins$Trials", "length", "I", false)
def tyX5 : Nat → FieldType := fun k => match k with
  | 0 => .array .int
  | 1 => .array .boolean
  | _ => .int
theorem nmX5 : ∀ a, a < 3 → ∀ b, b < 3 → a ≠ b → (TX5 a).2.1 ≠ (TX5 b).2.1 := by decide +kernel
theorem tyX5_ok : ∀ k, k < 3 → parseFieldDescriptor (TX5 k).2.2.1 = some (tyX5 k) := by decide +kernel
abbrev cX5_init : ByteArray := prog_7_method_1_code
def yX5_init : MethodName := ⟨RX5, "<init>", "()V"⟩
abbrev cX5_add : ByteArray := prog_7_method_2_code
def yX5_add : MethodName := ⟨RX5, "add", "(IZ)V"⟩
abbrev cX5_agreeWith : ByteArray := prog_7_method_3_code
def yX5_agreeWith : MethodName := ⟨RX5, "agreeWith", "(II)Z"⟩
def RX6 : String := "SafetyPins"
def TX6 : u_T := fun k => match k with
  | 0 => ("SafetyPins", "script", "LSafetyPins$Script;", true)
  | 1 => ("SafetyPins", "made", "LSafetyPins$Town;", true)
  | 2 => ("SafetyPins", "forces", "LSafetyPins$Forces;", true)
  | 3 => ("SafetyPins", "now", "LSafetyPins$Plight;", true)
  | 4 => ("SafetyPins", "thought", "LSafetyPins$Plight;", true)
  | 5 => ("SafetyPins", "acts", "LSafetyPins$Acts;", true)
  | 6 => ("SafetyPins", "kept", "[LSafetyPins$Plight;", true)
  | 7 => ("SafetyPins", "isKept", "[Z", true)
  | 8 => ("SafetyPins", "tried", "LSafetyPins$Trials;", true)
  | 9 => ("SafetyPins", "oneGains", "[I", true)
  | 10 => ("SafetyPins", "otherGains", "[I", true)
  | _ => ("SafetyPins", "seedNow", "J", false)
def tyX6 : Nat → FieldType := fun k => match k with
  | 0 => .object "SafetyPins$Script"
  | 1 => .object "SafetyPins$Town"
  | 2 => .object "SafetyPins$Forces"
  | 3 => .object "SafetyPins$Plight"
  | 4 => .object "SafetyPins$Plight"
  | 5 => .object "SafetyPins$Acts"
  | 6 => .array (.object "SafetyPins$Plight")
  | 7 => .array .boolean
  | 8 => .object "SafetyPins$Trials"
  | 9 => .array .int
  | 10 => .array .int
  | _ => .long
theorem nmX6 : ∀ a, a < 12 → ∀ b, b < 12 → a ≠ b → (TX6 a).2.1 ≠ (TX6 b).2.1 := by decide +kernel
theorem tyX6_ok : ∀ k, k < 12 → parseFieldDescriptor (TX6 k).2.2.1 = some (tyX6 k) := by decide +kernel
abbrev cX6_init : ByteArray := prog_1_method_1_code
def yX6_init : MethodName := ⟨RX6, "<init>", "()V"⟩
abbrev cX6_write : ByteArray := prog_1_method_2_code
def yX6_write : MethodName := ⟨RX6, "write", "(I)I"⟩
abbrev cX6_wipe : ByteArray := prog_1_method_3_code
def yX6_wipe : MethodName := ⟨RX6, "wipe", "()I"⟩
abbrev cX6_fault : ByteArray := prog_1_method_4_code
def yX6_fault : MethodName := ⟨RX6, "fault", "()I"⟩
abbrev cX6_town : ByteArray := prog_1_method_5_code
def yX6_town : MethodName := ⟨RX6, "town", "()I"⟩
abbrev cX6_pin : ByteArray := prog_1_method_6_code
def yX6_pin : MethodName := ⟨RX6, "pin", "(II)I"⟩
abbrev cX6_with : ByteArray := prog_1_method_7_code
def yX6_with : MethodName := ⟨RX6, "with", "(I)I"⟩
abbrev cX6_day : ByteArray := prog_1_method_8_code
def yX6_day : MethodName := ⟨RX6, "day", "()I"⟩
abbrev cX6_tug : ByteArray := prog_1_method_9_code
def yX6_tug : MethodName := ⟨RX6, "tug", "(II)I"⟩
abbrev cX6_shut : ByteArray := prog_1_method_10_code
def yX6_shut : MethodName := ⟨RX6, "shut", "(I)I"⟩
abbrev cX6_open : ByteArray := prog_1_method_11_code
def yX6_open : MethodName := ⟨RX6, "open", "(I)I"⟩
abbrev cX6_undo : ByteArray := prog_1_method_12_code
def yX6_undo : MethodName := ⟨RX6, "undo", "()I"⟩
abbrev cX6_later : ByteArray := prog_1_method_13_code
def yX6_later : MethodName := ⟨RX6, "later", "(I)I"⟩
abbrev cX6_lasts : ByteArray := prog_1_method_14_code
def yX6_lasts : MethodName := ⟨RX6, "lasts", "(I)I"⟩
abbrev cX6_chain : ByteArray := prog_1_method_15_code
def yX6_chain : MethodName := ⟨RX6, "chain", "(I)I"⟩
abbrev cX6_cuts : ByteArray := prog_1_method_16_code
def yX6_cuts : MethodName := ⟨RX6, "cuts", "(II)I"⟩
abbrev cX6_parts : ByteArray := prog_1_method_17_code
def yX6_parts : MethodName := ⟨RX6, "parts", "(III)I"⟩
abbrev cX6_letsGo : ByteArray := prog_1_method_18_code
def yX6_letsGo : MethodName := ⟨RX6, "letsGo", "(I)I"⟩
abbrev cX6_judge : ByteArray := prog_1_method_19_code
def yX6_judge : MethodName := ⟨RX6, "judge", "(IJ)I"⟩
abbrev cX6_trial : ByteArray := prog_1_method_20_code
def yX6_trial : MethodName := ⟨RX6, "trial", "(II)I"⟩
abbrev cX6_untry : ByteArray := prog_1_method_21_code
def yX6_untry : MethodName := ⟨RX6, "untry", "()I"⟩
abbrev cX6_which : ByteArray := prog_1_method_22_code
def yX6_which : MethodName := ⟨RX6, "which", "(I)I"⟩
abbrev cX6_share : ByteArray := prog_1_method_23_code
def yX6_share : MethodName := ⟨RX6, "share", "(IZ)I"⟩
abbrev cX6_rests : ByteArray := prog_1_method_24_code
def yX6_rests : MethodName := ⟨RX6, "rests", "(III)I"⟩
abbrev cX6_gives : ByteArray := prog_1_method_25_code
def yX6_gives : MethodName := ⟨RX6, "gives", "(IIIZ)I"⟩
abbrev cX6_seed : ByteArray := prog_1_method_26_code
def yX6_seed : MethodName := ⟨RX6, "seed", "(J)J"⟩
abbrev cX6_seasons : ByteArray := prog_1_method_27_code
def yX6_seasons : MethodName := ⟨RX6, "seasons", "(I)I"⟩
abbrev cX6_keep : ByteArray := prog_1_method_28_code
def yX6_keep : MethodName := ⟨RX6, "keep", "(I)I"⟩
abbrev cX6_again : ByteArray := prog_1_method_29_code
def yX6_again : MethodName := ⟨RX6, "again", "(I)I"⟩
abbrev cX6_count : ByteArray := prog_1_method_30_code
def yX6_count : MethodName := ⟨RX6, "count", "(I)I"⟩
abbrev cX6_isThing : ByteArray := prog_1_method_31_code
def yX6_isThing : MethodName := ⟨RX6, "isThing", "(I)Z"⟩
abbrev cX6_isPin : ByteArray := prog_1_method_32_code
def yX6_isPin : MethodName := ⟨RX6, "isPin", "(I)Z"⟩
abbrev cX6_refusalOfTwo : ByteArray := prog_1_method_33_code
def yX6_refusalOfTwo : MethodName := ⟨RX6, "refusalOfTwo", "(II)I"⟩
abbrev cX6_isBetterCut : ByteArray := prog_1_method_34_code
def yX6_isBetterCut : MethodName := ⟨RX6, "isBetterCut", "(II)Z"⟩
abbrev cX6_firstThatParts : ByteArray := prog_1_method_35_code
def yX6_firstThatParts : MethodName := ⟨RX6, "firstThatParts", "(III)I"⟩
abbrev cX6_comesTrue : ByteArray := prog_1_method_36_code
def yX6_comesTrue : MethodName := ⟨RX6, "comesTrue", "(III)Z"⟩
abbrev cX6_closesInThought : ByteArray := prog_1_method_37_code
def yX6_closesInThought : MethodName := ⟨RX6, "closesInThought", "(I)Z"⟩
abbrev cX6_unpinsInThought : ByteArray := prog_1_method_38_code
def yX6_unpinsInThought : MethodName := ⟨RX6, "unpinsInThought", "(I)Z"⟩
abbrev cX6_passSeason : ByteArray := prog_1_method_39_code
def yX6_passSeason : MethodName := ⟨RX6, "passSeason", "(I)V"⟩
abbrev cX6_pairsBroughtInAllOrders : ByteArray := prog_1_method_40_code
def yX6_pairsBroughtInAllOrders : MethodName := ⟨RX6, "pairsBroughtInAllOrders", "(III)J"⟩
abbrev cX6_reckonGains : ByteArray := prog_1_method_41_code
def yX6_reckonGains : MethodName := ⟨RX6, "reckonGains", "(II)V"⟩
abbrev cX6_priceOfBeingAlone : ByteArray := prog_1_method_42_code
def yX6_priceOfBeingAlone : MethodName := ⟨RX6, "priceOfBeingAlone", "(I)I"⟩
abbrev cX6_isAtRest : ByteArray := prog_1_method_43_code
def yX6_isAtRest : MethodName := ⟨RX6, "isAtRest", "(II)Z"⟩
abbrev cX6_power : ByteArray := prog_1_method_44_code
def yX6_power : MethodName := ⟨RX6, "power", "(II)J"⟩
abbrev cX6_inLeastTerms : ByteArray := prog_1_method_45_code
def yX6_inLeastTerms : MethodName := ⟨RX6, "inLeastTerms", "(JJZ)I"⟩
abbrev cX6_commonDivisor : ByteArray := prog_1_method_46_code
def yX6_commonDivisor : MethodName := ⟨RX6, "commonDivisor", "(JJ)J"⟩
def RX7 : String := "SafetyPinsModel"
def TX7 : u_T := fun k => match k with
  | 0 => ("SafetyPinsModel", "pins", "I", false)
  | 1 => ("SafetyPinsModel", "pulls", "I", false)
  | 2 => ("SafetyPinsModel", "deeds", "I", false)
  | 3 => ("SafetyPinsModel", "end", "[I", true)
  | 4 => ("SafetyPinsModel", "otherEnd", "[I", true)
  | 5 => ("SafetyPinsModel", "strength", "[I", true)
  | 6 => ("SafetyPinsModel", "kind", "[I", true)
  | 7 => ("SafetyPinsModel", "pulled", "[I", true)
  | 8 => ("SafetyPinsModel", "pull", "[I", true)
  | 9 => ("SafetyPinsModel", "deedOne", "[I", true)
  | 10 => ("SafetyPinsModel", "deedOther", "[I", true)
  | 11 => ("SafetyPinsModel", "now", "[I", true)
  | 12 => ("SafetyPinsModel", "readPin", "[I", true)
  | 13 => ("SafetyPinsModel", "readPull", "[I", true)
  | 14 => ("SafetyPinsModel", "readDeed", "[I", true)
  | 15 => ("SafetyPinsModel", "readPins", "I", false)
  | 16 => ("SafetyPinsModel", "readPulls", "I", false)
  | 17 => ("SafetyPinsModel", "readDeeds", "I", false)
  | 18 => ("SafetyPinsModel", "text", "[I", true)
  | 19 => ("SafetyPinsModel", "length", "I", false)
  | 20 => ("SafetyPinsModel", "at", "I", false)
  | 21 => ("SafetyPinsModel", "faultAt", "I", false)
  | 22 => ("SafetyPinsModel", "load", "[I", true)
  | 23 => ("SafetyPinsModel", "acts", "I", false)
  | 24 => ("SafetyPinsModel", "next", "I", false)
  | 25 => ("SafetyPinsModel", "row", "[I", true)
  | 26 => ("SafetyPinsModel", "tried", "I", false)
  | 27 => ("SafetyPinsModel", "triedLoad", "[I", true)
  | 28 => ("SafetyPinsModel", "triedGave", "[I", true)
  | 29 => ("SafetyPinsModel", "seed", "J", false)
  | 30 => ("SafetyPinsModel", "isKept", "[Z", true)
  | _ => ("SafetyPinsModel", "kept", "[I", true)
def tyX7 : Nat → FieldType := fun k => match k with
  | 0 => .int
  | 1 => .int
  | 2 => .int
  | 3 => .array .int
  | 4 => .array .int
  | 5 => .array .int
  | 6 => .array .int
  | 7 => .array .int
  | 8 => .array .int
  | 9 => .array .int
  | 10 => .array .int
  | 11 => .array .int
  | 12 => .array .int
  | 13 => .array .int
  | 14 => .array .int
  | 15 => .int
  | 16 => .int
  | 17 => .int
  | 18 => .array .int
  | 19 => .int
  | 20 => .int
  | 21 => .int
  | 22 => .array .int
  | 23 => .int
  | 24 => .int
  | 25 => .array .int
  | 26 => .int
  | 27 => .array .int
  | 28 => .array .int
  | 29 => .long
  | 30 => .array .boolean
  | _ => .array .int
theorem nmX7 : ∀ a, a < 32 → ∀ b, b < 32 → a ≠ b → (TX7 a).2.1 ≠ (TX7 b).2.1 := by decide +kernel
theorem tyX7_ok : ∀ k, k < 32 → parseFieldDescriptor (TX7 k).2.2.1 = some (tyX7 k) := by decide +kernel
abbrev cX7_init : ByteArray := prog_9_method_1_code
def yX7_init : MethodName := ⟨RX7, "<init>", "()V"⟩
abbrev cX7_in : ByteArray := prog_9_method_3_code
def yX7_in : MethodName := ⟨RX7, "in", "(JJJ)Z"⟩
abbrev cX7_has : ByteArray := prog_9_method_4_code
def yX7_has : MethodName := ⟨RX7, "has", "(II)Z"⟩
abbrev cX7_ones : ByteArray := prog_9_method_5_code
def yX7_ones : MethodName := ⟨RX7, "ones", "(I)I"⟩
abbrev cX7_write : ByteArray := prog_9_method_6_code
def yX7_write : MethodName := ⟨RX7, "write", "(I)I"⟩
abbrev cX7_wipe : ByteArray := prog_9_method_7_code
def yX7_wipe : MethodName := ⟨RX7, "wipe", "()I"⟩
abbrev cX7_figureOf : ByteArray := prog_9_method_8_code
def yX7_figureOf : MethodName := ⟨RX7, "figureOf", "(II)I"⟩
abbrev cX7_readText : ByteArray := prog_9_method_9_code
def yX7_readText : MethodName := ⟨RX7, "readText", "()I"⟩
abbrev cX7_readPart : ByteArray := prog_9_method_10_code
def yX7_readPart : MethodName := ⟨RX7, "readPart", "(I)V"⟩
abbrev cX7_fault : ByteArray := prog_9_method_11_code
def yX7_fault : MethodName := ⟨RX7, "fault", "()I"⟩
abbrev cX7_town : ByteArray := prog_9_method_12_code
def yX7_town : MethodName := ⟨RX7, "town", "()I"⟩
abbrev cX7_isPin : ByteArray := prog_9_method_13_code
def yX7_isPin : MethodName := ⟨RX7, "isPin", "(I)Z"⟩
abbrev cX7_isThing : ByteArray := prog_9_method_14_code
def yX7_isThing : MethodName := ⟨RX7, "isThing", "(I)Z"⟩
abbrev cX7_all : ByteArray := prog_9_method_15_code
def yX7_all : MethodName := ⟨RX7, "all", "()I"⟩
abbrev cX7_withBy : ByteArray := prog_9_method_16_code
def yX7_withBy : MethodName := ⟨RX7, "withBy", "(II)I"⟩
abbrev cX7_isTogether : ByteArray := prog_9_method_17_code
def yX7_isTogether : MethodName := ⟨RX7, "isTogether", "(III)Z"⟩
abbrev cX7_pairsBy : ByteArray := prog_9_method_18_code
def yX7_pairsBy : MethodName := ⟨RX7, "pairsBy", "(I)I"⟩
abbrev cX7_doableBy : ByteArray := prog_9_method_19_code
def yX7_doableBy : MethodName := ⟨RX7, "doableBy", "(I)I"⟩
abbrev cX7_unload : ByteArray := prog_9_method_20_code
def yX7_unload : MethodName := ⟨RX7, "unload", "()V"⟩
abbrev cX7_holdsOn : ByteArray := prog_9_method_21_code
def yX7_holdsOn : MethodName := ⟨RX7, "holdsOn", "(II)I"⟩
abbrev cX7_onBoth : ByteArray := prog_9_method_22_code
def yX7_onBoth : MethodName := ⟨RX7, "onBoth", "(I)I"⟩
abbrev cX7_ping : ByteArray := prog_9_method_23_code
def yX7_ping : MethodName := ⟨RX7, "ping", "(I)I"⟩
abbrev cX7_tugOn : ByteArray := prog_9_method_24_code
def yX7_tugOn : MethodName := ⟨RX7, "tugOn", "(III)I"⟩
abbrev cX7_passOn : ByteArray := prog_9_method_25_code
def yX7_passOn : MethodName := ⟨RX7, "passOn", "(I)I"⟩
abbrev cX7_shutOn : ByteArray := prog_9_method_26_code
def yX7_shutOn : MethodName := ⟨RX7, "shutOn", "(II)V"⟩
abbrev cX7_pin : ByteArray := prog_9_method_27_code
def yX7_pin : MethodName := ⟨RX7, "pin", "(II)I"⟩
abbrev cX7_with : ByteArray := prog_9_method_28_code
def yX7_with : MethodName := ⟨RX7, "with", "(I)I"⟩
abbrev cX7_keepAct : ByteArray := prog_9_method_29_code
def yX7_keepAct : MethodName := ⟨RX7, "keepAct", "()V"⟩
abbrev cX7_day : ByteArray := prog_9_method_30_code
def yX7_day : MethodName := ⟨RX7, "day", "()I"⟩
abbrev cX7_tug : ByteArray := prog_9_method_31_code
def yX7_tug : MethodName := ⟨RX7, "tug", "(II)I"⟩
abbrev cX7_shut : ByteArray := prog_9_method_32_code
def yX7_shut : MethodName := ⟨RX7, "shut", "(I)I"⟩
abbrev cX7_open : ByteArray := prog_9_method_33_code
def yX7_open : MethodName := ⟨RX7, "open", "(I)I"⟩
abbrev cX7_undo : ByteArray := prog_9_method_34_code
def yX7_undo : MethodName := ⟨RX7, "undo", "()I"⟩
abbrev cX7_layTrial : ByteArray := prog_9_method_35_code
def yX7_layTrial : MethodName := ⟨RX7, "layTrial", "()V"⟩
abbrev cX7_later : ByteArray := prog_9_method_36_code
def yX7_later : MethodName := ⟨RX7, "later", "(I)I"⟩
abbrev cX7_lasts : ByteArray := prog_9_method_37_code
def yX7_lasts : MethodName := ⟨RX7, "lasts", "(I)I"⟩
abbrev cX7_chain : ByteArray := prog_9_method_38_code
def yX7_chain : MethodName := ⟨RX7, "chain", "(I)I"⟩
abbrev cX7_cuts : ByteArray := prog_9_method_39_code
def yX7_cuts : MethodName := ⟨RX7, "cuts", "(II)I"⟩
abbrev cX7_parts : ByteArray := prog_9_method_40_code
def yX7_parts : MethodName := ⟨RX7, "parts", "(III)I"⟩
abbrev cX7_letsGo : ByteArray := prog_9_method_41_code
def yX7_letsGo : MethodName := ⟨RX7, "letsGo", "(I)I"⟩
abbrev cX7_tryThing : ByteArray := prog_9_method_42_code
def yX7_tryThing : MethodName := ⟨RX7, "tryThing", "(III)Z"⟩
abbrev cX7_thousandTo : ByteArray := prog_9_method_43_code
def yX7_thousandTo : MethodName := ⟨RX7, "thousandTo", "(I)J"⟩
abbrev cX7_judge : ByteArray := prog_9_method_44_code
def yX7_judge : MethodName := ⟨RX7, "judge", "(IJ)I"⟩
abbrev cX7_trial : ByteArray := prog_9_method_45_code
def yX7_trial : MethodName := ⟨RX7, "trial", "(II)I"⟩
abbrev cX7_untry : ByteArray := prog_9_method_46_code
def yX7_untry : MethodName := ⟨RX7, "untry", "()I"⟩
abbrev cX7_which : ByteArray := prog_9_method_47_code
def yX7_which : MethodName := ⟨RX7, "which", "(I)I"⟩
abbrev cX7_factorial : ByteArray := prog_9_method_48_code
def yX7_factorial : MethodName := ⟨RX7, "factorial", "(I)I"⟩
abbrev cX7_common : ByteArray := prog_9_method_49_code
def yX7_common : MethodName := ⟨RX7, "common", "(II)I"⟩
abbrev cX7_share : ByteArray := prog_9_method_50_code
def yX7_share : MethodName := ⟨RX7, "share", "(IZ)I"⟩
abbrev cX7_gain : ByteArray := prog_9_method_51_code
def yX7_gain : MethodName := ⟨RX7, "gain", "(IIII)I"⟩
abbrev cX7_isRest : ByteArray := prog_9_method_52_code
def yX7_isRest : MethodName := ⟨RX7, "isRest", "(IIII)Z"⟩
abbrev cX7_rests : ByteArray := prog_9_method_53_code
def yX7_rests : MethodName := ⟨RX7, "rests", "(III)I"⟩
abbrev cX7_power : ByteArray := prog_9_method_54_code
def yX7_power : MethodName := ⟨RX7, "power", "(II)I"⟩
abbrev cX7_gives : ByteArray := prog_9_method_55_code
def yX7_gives : MethodName := ⟨RX7, "gives", "(IIIZ)I"⟩
abbrev cX7_seed : ByteArray := prog_9_method_56_code
def yX7_seed : MethodName := ⟨RX7, "seed", "(J)J"⟩
abbrev cX7_seasons : ByteArray := prog_9_method_57_code
def yX7_seasons : MethodName := ⟨RX7, "seasons", "(I)I"⟩
abbrev cX7_keep : ByteArray := prog_9_method_58_code
def yX7_keep : MethodName := ⟨RX7, "keep", "(I)I"⟩
abbrev cX7_again : ByteArray := prog_9_method_59_code
def yX7_again : MethodName := ⟨RX7, "again", "(I)I"⟩
abbrev cX7_wearOfAll : ByteArray := prog_9_method_60_code
def yX7_wearOfAll : MethodName := ⟨RX7, "wearOfAll", "()I"⟩
abbrev cX7_count : ByteArray := prog_9_method_61_code
def yX7_count : MethodName := ⟨RX7, "count", "(I)I"⟩
def RJ6 : String := "java/lang/Integer"
def TJ6 : u_T := fun k => match k with
  | _ => ("", "", "", false)
def tyJ6 : Nat → FieldType := fun k => match k with
  | _ => .int
theorem nmJ6 : ∀ a, a < 0 → ∀ b, b < 0 → a ≠ b → (TJ6 a).2.1 ≠ (TJ6 b).2.1 := by decide +kernel
theorem tyJ6_ok : ∀ k, k < 0 → parseFieldDescriptor (TJ6 k).2.2.1 = some (tyJ6 k) := by decide +kernel
abbrev cJ6_bitCount_0f7a4 : ByteArray := prog_10_method_49_code
def yJ6_bitCount_0f7a4 : MethodName := ⟨RJ6, "bitCount", "(I)I"⟩
def RJ9 : String := "java/lang/Math"
def TJ9 : u_T := fun k => match k with
  | _ => ("", "", "", false)
def tyJ9 : Nat → FieldType := fun k => match k with
  | _ => .int
theorem nmJ9 : ∀ a, a < 0 → ∀ b, b < 0 → a ≠ b → (TJ9 a).2.1 ≠ (TJ9 b).2.1 := by decide +kernel
theorem tyJ9_ok : ∀ k, k < 0 → parseFieldDescriptor (TJ9 k).2.2.1 = some (tyJ9 k) := by decide +kernel
abbrev cJ9_floorMod_7cf53 : ByteArray := prog_11_method_50_code
def yJ9_floorMod_7cf53 : MethodName := ⟨RJ9, "floorMod", "(II)I"⟩
abbrev cJ9_max_7cf53 : ByteArray := prog_11_method_65_code
def yJ9_max_7cf53 : MethodName := ⟨RJ9, "max", "(II)I"⟩
abbrev cJ9_max_f86c9 : ByteArray := prog_11_method_66_code
def yJ9_max_f86c9 : MethodName := ⟨RJ9, "max", "(JJ)J"⟩
abbrev cJ9_min_7cf53 : ByteArray := prog_11_method_69_code
def yJ9_min_7cf53 : MethodName := ⟨RJ9, "min", "(II)I"⟩
def RL : String := "SafetyPinsLaw"
abbrev cL_law : ByteArray := code
def yL_law : MethodName := ⟨RL, "law", "([I)Z"⟩
abbrev vwCl : List vw_C := [(RX0, TX0, 3), (RX1, TX1, 2), (RX2, TX2, 3), (RX3, TX3, 2), (RX4, TX4, 11), (RX5, TX5, 3), (RX6, TX6, 12), (RX7, TX7, 32)]
end
section
def z_tb : List Cond := lw_tbl.filter goodWord
theorem z_in {w : Cond} (i : Nat) (h : tables_1[i]? = some w) (g : goodWord w = true := by rfl) : w ∈ z_tb := List.mem_filter.mpr ⟨List.mem_append_right _ (List.mem_of_getElem? h), g⟩
theorem z_inp {q : MethodName × Nat} (i : Nat) (h : lw_privs[i]? = some q) : Cond.selects q.1.cls q.1 q.1 ∈ z_tb := List.mem_filter.mpr ⟨List.mem_append_left _ (List.mem_map.mpr ⟨q, List.mem_of_getElem? h, rfl⟩), rfl⟩
theorem z_ui {ws : List Cond} (ps : List Nat) (h : ws = ps.filterMap (fun i => tables_1[i]?)) (g : ws.all goodWord = true) : ∀ w ∈ ws, w ∈ z_tb := by
  intro w hw
  have hg := List.all_eq_true.mp g w hw
  rw [h] at hw
  obtain ⟨i, -, hi⟩ := List.mem_filterMap.mp hw
  exact z_in i hi hg
theorem z_u0 : ∀ w ∈ u_ws RX0 TX0 3, w ∈ z_tb := z_ui [138, 140, 142] (by decide +kernel) (by decide +kernel)
theorem z_u1 : ∀ w ∈ u_ws RX1 TX1 2, w ∈ z_tb := z_ui [98, 100] (by decide +kernel) (by decide +kernel)
theorem z_u2 : ∀ w ∈ u_ws RX2 TX2 3, w ∈ z_tb := z_ui [118, 120, 122] (by decide +kernel) (by decide +kernel)
theorem z_u3 : ∀ w ∈ u_ws RX3 TX3 2, w ∈ z_tb := z_ui [30, 32] (by decide +kernel) (by decide +kernel)
theorem z_u4 : ∀ w ∈ u_ws RX4 TX4 11, w ∈ z_tb := z_ui [67, 69, 71, 73, 75, 77, 79, 81, 83, 85, 87] (by decide +kernel) (by decide +kernel)
theorem z_u5 : ∀ w ∈ u_ws RX5 TX5 3, w ∈ z_tb := z_ui [155, 157, 159] (by decide +kernel) (by decide +kernel)
theorem z_u6 : ∀ w ∈ u_ws RX6 TX6 12, w ∈ z_tb := z_ui [175, 177, 179, 181, 183, 185, 187, 189, 191, 193, 195, 197] (by decide +kernel) (by decide +kernel)
theorem z_u7 : ∀ w ∈ u_ws RX7 TX7 32, w ∈ z_tb := z_ui [596, 598, 600, 602, 604, 606, 608, 610, 612, 614, 616, 618, 620, 622, 624, 626, 628, 630, 632, 634, 636, 638, 640, 642, 644, 646, 648, 650, 652, 654, 656, 658] (by decide +kernel) (by decide +kernel)
end
section
/-! ABSTRACT MEMORY: every object and array has a number (its place in z_shp); M.1 id k: the int in slot k of object id (or place k of array id); M.2 id k: the long in slot k. References are constant. -/
abbrev z_Mem : Type := (Nat → Nat → Int32) × (Nat → Nat → Int64)
/-- a shape: an int array (kind, length); an object (class, its slots: 0 int, 1 long, j + 2 a reference to j); an array of references -/
abbrev z_Sh : Type := (Nat × Nat) ⊕ ((Nat × List Nat) ⊕ List Nat)
def z_fv (ad : Nat → Nat) (M : z_Mem) (id k : Nat) : Nat → Value
  | 0 => .int (M.1 id k)
  | 1 => .long (M.2 id k)
  | j + 2 => .ref (ad j)
def z_fs (ad : Nat → Nat) (M : z_Mem) (id : Nat) : Nat → List Nat → List Value
  | _, [] => []
  | k, f :: fs => z_fv ad M id k f :: z_fs ad M id (k + 1) fs
def z_ent (cy : Nat → ClassId) (ad : Nat → Nat) (M : z_Mem) (id : Nat) : z_Sh → va_E
  | .inl q => .inl (cy q.1, q.2, .inl (M.1 id))
  | .inr (.inl q) => .inr (q.1, z_fs ad M id 0 q.2)
  | .inr (.inr l) => .inl (cy 2, l.length, .inr (.inr (.inr (.inr (fun k => (l[k]?).map ad)))))
def z_wdf (cy : Nat → ClassId) (ad : Nat → Nat) (M : z_Mem) : Nat → List z_Sh → va_W
  | _, [] => []
  | i, s :: l => (ad i, z_ent cy ad M i s) :: z_wdf cy ad M (i + 1) l

def z_shp : List z_Sh := [.inr (.inl (6, [3, 5, 14, 16, 18, 20, 50, 55, 56, 59, 60, 1])), .inr (.inl (3, [4, 0])), .inl (0, 60), .inr (.inl (4, [0, 6, 7, 8, 9, 0, 10, 11, 0, 12, 13])), .inl (0, 7), .inl (0, 7), .inl (0, 7), .inl (0, 7), .inl (0, 4), .inl (0, 4), .inl (0, 3), .inl (0, 3), .inr (.inl (1, [5, 15])), .inl (0, 6), .inr (.inl (2, [0, 17, 0])), .inl (0, 7), .inr (.inl (2, [0, 19, 0])), .inl (0, 7), .inr (.inl (0, [21, 0, 0])), .inr (.inr [20, 22, 24, 26, 28, 30, 32, 34, 36, 38, 40, 42, 44, 46]), .inr (.inl (2, [0, 23, 0])), .inl (0, 7), .inr (.inl (2, [0, 25, 0])), .inl (0, 7), .inr (.inl (2, [0, 27, 0])), .inl (0, 7), .inr (.inl (2, [0, 29, 0])), .inl (0, 7), .inr (.inl (2, [0, 31, 0])), .inl (0, 7), .inr (.inl (2, [0, 33, 0])), .inl (0, 7), .inr (.inl (2, [0, 35, 0])), .inl (0, 7), .inr (.inl (2, [0, 37, 0])), .inl (0, 7), .inr (.inl (2, [0, 39, 0])), .inl (0, 7), .inr (.inl (2, [0, 41, 0])), .inl (0, 7), .inr (.inl (2, [0, 43, 0])), .inl (0, 7), .inr (.inl (2, [0, 45, 0])), .inl (0, 7), .inr (.inl (2, [0, 47, 0])), .inl (0, 7), .inr (.inl (2, [0, 49, 0])), .inl (0, 7), .inr (.inr [49, 51]), .inr (.inl (2, [0, 52, 0])), .inl (0, 7), .inr (.inl (2, [0, 54, 0])), .inl (0, 7), .inl (1, 2), .inr (.inl (5, [57, 58, 0])), .inl (0, 6), .inl (1, 6), .inl (0, 9), .inl (0, 9), .inr (.inl (7, [0, 0, 0, 62, 63, 64, 65, 66, 67, 68, 69, 70, 71, 72, 73, 0, 0, 0, 74, 0, 0, 0, 75, 0, 0, 76, 0, 77, 78, 1, 79, 80])), .inl (0, 7), .inl (0, 7), .inl (0, 7), .inl (0, 7), .inl (0, 4), .inl (0, 4), .inl (0, 3), .inl (0, 3), .inl (0, 18), .inl (0, 28), .inl (0, 8), .inl (0, 6), .inl (0, 60), .inl (0, 6), .inl (0, 126), .inl (0, 6), .inl (0, 6), .inl (1, 2), .inl (0, 18)]
def z_wd (cy : Nat → ClassId) (ad : Nat → Nat) (M : z_Mem) : va_W := z_wdf cy ad M 0 z_shp
def z_ty (cy : Nat → ClassId) : List (ClassId × FieldType) := [(cy 0, .int), (cy 1, .boolean), (cy 2, .object "SafetyPins$Plight")]
def z_A (ad : Nat → Nat) : Nat → Prop := fun q => ∃ i, i < 79 ∧ q = ad i
def z_FA : List Int32 := [1, 1, 2, 6, 24, 120, 720, 5040]
def z_TH : List Int64 := [1, 1000, 1000000, 1000000000, 1000000000000]
/-- the class's two static arrays, as they stand ahead of the law -/
def z_st (ad : Nat → Nat) (U : State) (H : Heap) : Prop := va_Z "SafetyPins" "FACTORIALS" "[I" (.ref (ad 1000)) (z_A ad) U H ∧ va_Z "SafetyPins" "THOUSANDS" "[J" (.ref (ad 1001)) (z_A ad) U H ∧ va_T .int (ad 1000) 8 (fun k => .int (z_FA.getD k 0)) (z_A ad) U H ∧ va_T .long (ad 1001) 5 (fun k => .long (z_TH.getD k 0)) (z_A ad) U H
theorem z_st_moved {ad : Nat → Nat} {u U : State} {H : Heap} (hvm : u.vm.Alike U.vm) (h : z_st ad u H) : z_st ad U H := ⟨va_Z.moved hvm h.1, va_Z.moved hvm h.2.1, va_T.moved hvm h.2.2.1, va_T.moved hvm h.2.2.2⟩
theorem z_st_kept {ad : Nat → Nat} {U : State} {H H1 : Heap} (h : z_st ad U H) (hq : ∀ a : Nat, a < H.size → ¬ z_A ad a → H1[a]? = H[a]?) : z_st ad U H1 := ⟨h.1.kept hq, h.2.1.kept hq, h.2.2.1.kept hq, h.2.2.2.kept hq⟩
-- worlds
theorem z_fs_get {ad : Nat → Nat} {M : z_Mem} {id : Nat} : ∀ (l : List Nat) (j k f : Nat), l[k]? = some f → (z_fs ad M id j l)[k]? = some (z_fv ad M id (j + k) f)
  | [], j, k, f, h => by simp at h
  | g :: l, j, 0, f, h => by
    simp at h
    subst h
    simp [z_fs]
  | g :: l, j, k + 1, f, h => by
    have := z_fs_get (ad := ad) (M := M) (id := id) l (j + 1) k f (by simpa using h)
    rw [z_fs, List.getElem?_cons_succ, this, show j + 1 + k = j + (k + 1) by omega]
theorem z_fs_len {ad : Nat → Nat} {M : z_Mem} {id : Nat} : ∀ (l : List Nat) (j : Nat), (z_fs ad M id j l).length = l.length
  | [], _ => rfl
  | _ :: l, j => by rw [z_fs, List.length_cons, List.length_cons, z_fs_len l (j + 1)]
theorem z_fv_cong {ad : Nat → Nat} {M N : z_Mem} {id k : Nat} (h1 : N.1 id k = M.1 id k) (h2 : N.2 id k = M.2 id k) : ∀ f, z_fv ad N id k f = z_fv ad M id k f
  | 0 => by rw [z_fv, z_fv, h1]
  | 1 => by rw [z_fv, z_fv, h2]
  | _ + 2 => rfl
theorem z_fs_cong {ad : Nat → Nat} {M N : z_Mem} {id : Nat} : ∀ (l : List Nat) (j : Nat), (∀ b, j ≤ b → N.1 id b = M.1 id b) → (∀ b, j ≤ b → N.2 id b = M.2 id b) → z_fs ad N id j l = z_fs ad M id j l
  | [], _, _, _ => rfl
  | f :: l, j, h1, h2 => by rw [z_fs, z_fs, z_fs_cong l (j + 1) (fun b hb => h1 b (by omega)) (fun b hb => h2 b (by omega)), z_fv_cong (h1 j (Nat.le_refl j)) (h2 j (Nat.le_refl j))]
theorem z_fs_set {ad : Nat → Nat} {M N : z_Mem} {id : Nat} {v : Value} : ∀ (l : List Nat) (j k f : Nat), l[k]? = some f → z_fv ad N id (j + k) f = v → (∀ b, b ≠ j + k → N.1 id b = M.1 id b) → (∀ b, b ≠ j + k → N.2 id b = M.2 id b) → (z_fs ad M id j l).set k v = z_fs ad N id j l
  | [], j, k, f, h, _, _, _ => by simp at h
  | g :: l, j, 0, f, h, hv, h1, h2 => by
    simp at h
    subst h
    rw [z_fs, z_fs, List.set_cons_zero, z_fs_cong l (j + 1) (fun b hb => h1 b (by omega)) (fun b hb => h2 b (by omega)), ← hv, Nat.add_zero]
  | g :: l, j, k + 1, f, h, hv, h1, h2 => by
    have e : j + 1 + k = j + (k + 1) := by omega
    rw [z_fs, z_fs, List.set_cons_succ, z_fs_set l (j + 1) k f (by simpa using h) (by rw [e]; exact hv) (fun b hb => h1 b (by omega)) (fun b hb => h2 b (by omega)), z_fv_cong (h1 j (by omega)) (h2 j (by omega))]
theorem z_ent_cong {cy : Nat → ClassId} {ad : Nat → Nat} {M N : z_Mem} {id : Nat} (h1 : N.1 id = M.1 id) (h2 : N.2 id = M.2 id) : ∀ s : z_Sh, z_ent cy ad N id s = z_ent cy ad M id s
  | .inl q => by rw [z_ent, z_ent, h1]
  | .inr (.inl q) => by
    show Sum.inr (q.1, z_fs ad N id 0 q.2) = Sum.inr (q.1, z_fs ad M id 0 q.2)
    rw [z_fs_cong (M := M) (N := N) q.2 0 (fun b _ => by rw [h1]) (fun b _ => by rw [h2])]
  | .inr (.inr l) => rfl
theorem z_wdf_get {cy : Nat → ClassId} {ad : Nat → Nat} {M : z_Mem} : ∀ (l : List z_Sh) (i k : Nat) (s : z_Sh), l[k]? = some s → (z_wdf cy ad M i l)[k]? = some (ad (i + k), z_ent cy ad M (i + k) s)
  | [], i, k, s, h => by simp at h
  | t :: l, i, 0, s, h => by
    simp at h
    subst h
    simp [z_wdf]
  | t :: l, i, k + 1, s, h => by
    have := z_wdf_get (cy := cy) (ad := ad) (M := M) l (i + 1) k s (by simpa using h)
    rw [z_wdf, List.getElem?_cons_succ, this, show i + 1 + k = i + (k + 1) by omega]
theorem z_wdf_len {cy : Nat → ClassId} {ad : Nat → Nat} {M : z_Mem} : ∀ (l : List z_Sh) (i : Nat), (z_wdf cy ad M i l).length = l.length
  | [], _ => rfl
  | _ :: l, i => by rw [z_wdf, List.length_cons, List.length_cons, z_wdf_len l (i + 1)]
theorem z_wdf_cong {cy : Nat → ClassId} {ad : Nat → Nat} {M N : z_Mem} : ∀ (l : List z_Sh) (i : Nat), (∀ a, i ≤ a → N.1 a = M.1 a ∧ N.2 a = M.2 a) → z_wdf cy ad N i l = z_wdf cy ad M i l
  | [], _, _ => rfl
  | t :: l, i, h => by rw [z_wdf, z_wdf, z_wdf_cong l (i + 1) (fun a ha => h a (by omega)), z_ent_cong (h i (Nat.le_refl i)).1 (h i (Nat.le_refl i)).2]
theorem z_wdf_set {cy : Nat → ClassId} {ad : Nat → Nat} {M N : z_Mem} : ∀ (l : List z_Sh) (i k : Nat) (s : z_Sh), (∀ a, a ≠ i + k → N.1 a = M.1 a ∧ N.2 a = M.2 a) → l[k]? = some s → z_wdf cy ad N i l = (z_wdf cy ad M i l).set k (ad (i + k), z_ent cy ad N (i + k) s)
  | [], i, k, s, _, h => by simp at h
  | t :: l, i, 0, s, hq, h => by
    simp at h
    subst h
    rw [z_wdf, z_wdf, List.set_cons_zero, z_wdf_cong (M := M) (N := N) l (i + 1) (fun a ha => hq a (by omega))]
    simp
  | t :: l, i, k + 1, s, hq, h => by
    have e : i + 1 + k = i + (k + 1) := by omega
    rw [z_wdf, z_wdf, List.set_cons_succ, z_wdf_set (M := M) l (i + 1) k s (fun a ha => hq a (by omega)) (by simpa using h), z_ent_cong (hq i (by omega)).1 (hq i (by omega)).2, e]
theorem z_wd_get {cy : Nat → ClassId} {ad : Nat → Nat} {M : z_Mem} {k : Nat} {s : z_Sh} (h : z_shp[k]? = some s) : (z_wd cy ad M)[k]? = some (ad k, z_ent cy ad M k s) := by
  have := z_wdf_get (cy := cy) (ad := ad) (M := M) z_shp 0 k s h
  rwa [Nat.zero_add] at this
theorem z_wd_set {cy : Nat → ClassId} {ad : Nat → Nat} {M N : z_Mem} {k : Nat} {s : z_Sh} (hq : ∀ a, a ≠ k → N.1 a = M.1 a ∧ N.2 a = M.2 a) (h : z_shp[k]? = some s) : (z_wd cy ad M).set k (ad k, z_ent cy ad N k s) = z_wd cy ad N := by
  have := z_wdf_set (cy := cy) (ad := ad) (M := M) (N := N) z_shp 0 k s (by rw [Nat.zero_add]; exact hq) h
  rw [Nat.zero_add] at this
  exact this.symm
-- memory
def z_row (M : z_Mem) (id : Nat) (f : Nat → Int32) : z_Mem := (fun a => if a = id then f else M.1 a, M.2)
def z_set (M : z_Mem) (id k : Nat) (v : Int32) : z_Mem := z_row M id (upd (M.1 id) k v)
def z_setL (M : z_Mem) (id k : Nat) (v : Int64) : z_Mem := (M.1, fun a => if a = id then (fun b => if b = k then v else M.2 a b) else M.2 a)
theorem z_row_1 (M : z_Mem) (id : Nat) (f : Nat → Int32) : (z_row M id f).1 id = f := by simp [z_row]
theorem z_row_n (M : z_Mem) {id a : Nat} (f : Nat → Int32) (h : a ≠ id) : (z_row M id f).1 a = M.1 a := by simp [z_row, h]
theorem z_row_2 (M : z_Mem) (id : Nat) (f : Nat → Int32) : (z_row M id f).2 = M.2 := rfl
theorem z_row_same (M : z_Mem) (id : Nat) : z_row M id (M.1 id) = M := by
  refine Prod.ext (funext fun a => ?_) rfl
  show (if a = id then M.1 id else M.1 a) = M.1 a
  by_cases h : a = id
  · rw [if_pos h, h]
  · rw [if_neg h]
theorem z_row_row (M : z_Mem) (id : Nat) (f g : Nat → Int32) : z_row (z_row M id f) id g = z_row M id g := by
  refine Prod.ext (funext fun a => ?_) rfl
  show (if a = id then g else if a = id then f else M.1 a) = if a = id then g else M.1 a
  by_cases h : a = id <;> simp [h]
theorem z_row_comm (M : z_Mem) {i j : Nat} (f g : Nat → Int32) (h : i ≠ j) : z_row (z_row M i f) j g = z_row (z_row M j g) i f := by
  refine Prod.ext (funext fun a => ?_) rfl
  show (if a = j then g else if a = i then f else M.1 a) = if a = i then f else if a = j then g else M.1 a
  by_cases h1 : a = j
  · subst h1
    rw [if_pos rfl, if_neg (Ne.symm h), if_pos rfl]
  · rw [if_neg h1, if_neg h1]
-- values
def z_mv (ad : Nat → Nat) : Value → Value
  | .ref i => .ref (ad i)
  | v => v
theorem z_cat (ad : Nat → Nat) (v : Value) : (z_mv ad v).category = v.category := by cases v <;> rfl
theorem z_cats (ad : Nat → Nat) (st : List Value) : ((st.map (z_mv ad)).map fun v => v.category) = st.map fun v => v.category := by
  rw [List.map_map]
  exact List.map_congr_left (fun v _ => z_cat ad v)
def z_pv (M : z_Mem) (id k : Nat) : Nat → Value
  | 0 => .int (M.1 id k)
  | 1 => .long (M.2 id k)
  | j + 2 => .ref j
theorem z_pv_mv (ad : Nat → Nat) (M : z_Mem) (id k : Nat) : ∀ f, z_mv ad (z_pv M id k f) = z_fv ad M id k f
  | 0 => rfl
  | 1 => rfl
  | _ + 2 => rfl
-- locals
def z_Lo (ad : Nat → Nat) (nL : Nat) (ls : List (Option Value)) (ar : Array Slot) : Prop := ar.size = nL ∧ lv_wf ar ∧ ∀ (i : Nat) (v : Value), ls[i]? = some (some v) → ar[i]? = some (.val (z_mv ad v))
def z_okst (i : Nat) (ls : List (Option Value)) : Bool := match i with
  | 0 => true
  | j + 1 => match ls[j]? with
    | some (some v) => v.category != 2
    | _ => true
def z_lvl (ad : Nat → Nat) (ls : List (Option Value)) : List (Nat × Value) := (List.range ls.length).filterMap (fun i => match ls[i]? with
  | some (some v) => some (i, z_mv ad v)
  | _ => none)
theorem z_lvl_in {ad : Nat → Nat} {ls : List (Option Value)} {i : Nat} {v : Value} (h : ls[i]? = some (some v)) : (i, z_mv ad v) ∈ z_lvl ad ls := by
  refine List.mem_filterMap.mpr ⟨i, List.mem_range.mpr (List.getElem?_eq_some_iff.mp h).1, ?_⟩
  rw [h]
theorem z_lvl_of {ad : Nat → Nat} {ls : List (Option Value)} {q : Nat × Value} (h : q ∈ z_lvl ad ls) : ∃ v, ls[q.1]? = some (some v) ∧ q.2 = z_mv ad v := by
  obtain ⟨i, -, h2⟩ := List.mem_filterMap.mp h
  split at h2
  · next v hv =>
    cases h2
    exact ⟨v, hv, rfl⟩
  · cases h2
theorem z_lvh {ad : Nat → Nat} {nL : Nat} {ls : List (Option Value)} {ar : Array Slot} (h : z_Lo ad nL ls ar) : lv_has ar nL (z_lvl ad ls) := by
  refine ⟨h.1, h.2.1, fun q hq => ?_⟩
  obtain ⟨v, h1, h2⟩ := z_lvl_of hq
  rw [h2]
  exact h.2.2 _ _ h1
theorem z_lv1 {ad : Nat → Nat} {nL i : Nat} {ls : List (Option Value)} {ar : Array Slot} {v : Value} (hi : z_okst i ls = true) (h : lv_has ar nL ((i, z_mv ad v) :: (z_lvl ad ls).filter (fun q => !(q.1 == i) && !(q.1 + 1 == i && q.2.category == 2)))) : z_Lo ad nL (ls.set i (some v)) ar := by
  refine ⟨h.1, h.2.1, fun j w hj => ?_⟩
  by_cases e : i = j
  · subst e
    have hlt : i < ls.length := by
      have := (List.getElem?_eq_some_iff.mp hj).1
      rwa [List.length_set] at this
    rw [List.getElem?_set_self hlt] at hj
    cases hj
    exact h.2.2 _ List.mem_cons_self
  · rw [List.getElem?_set_ne e] at hj
    refine h.2.2 (j, z_mv ad w) (List.mem_cons_of_mem _ (List.mem_filter.mpr ⟨z_lvl_in hj, ?_⟩))
    have h1 : (j == i) = false := by simpa using (Ne.symm e)
    show (!(j == i) && !(j + 1 == i && (z_mv ad w).category == 2)) = true
    rw [h1, z_cat]
    by_cases h2 : j + 1 = i
    · subst h2
      simp only [z_okst, hj] at hi
      simpa using hi
    · have : (j + 1 == i) = false := by simpa using h2
      simp [this]
theorem z_lv2 {ad : Nat → Nat} {nL i : Nat} {ls : List (Option Value)} {ar : Array Slot} {v : Value} (hi : z_okst i ls = true) (h : lv_has ar nL ((i, z_mv ad v) :: (z_lvl ad ls).filter (fun q => !(q.1 == i) && (!(q.1 == i + 1) && !(q.1 + 1 == i && q.2.category == 2))))) : z_Lo ad nL ((ls.set i (some v)).set (i + 1) none) ar := by
  refine ⟨h.1, h.2.1, fun j w hj => ?_⟩
  have e2 : i + 1 ≠ j := by
    intro e
    subst e
    have hlt := (List.getElem?_eq_some_iff.mp hj).1
    rw [List.length_set] at hlt
    rw [List.getElem?_set_self hlt] at hj
    cases hj
  rw [List.getElem?_set_ne e2] at hj
  by_cases e : i = j
  · subst e
    have hlt : i < ls.length := by
      have := (List.getElem?_eq_some_iff.mp hj).1
      rwa [List.length_set] at this
    rw [List.getElem?_set_self hlt] at hj
    cases hj
    exact h.2.2 _ List.mem_cons_self
  · rw [List.getElem?_set_ne e] at hj
    refine h.2.2 (j, z_mv ad w) (List.mem_cons_of_mem _ (List.mem_filter.mpr ⟨z_lvl_in hj, ?_⟩))
    have h1 : (j == i) = false := by simpa using (Ne.symm e)
    have h3 : (j == i + 1) = false := by simpa using (Ne.symm e2)
    show (!(j == i) && (!(j == i + 1) && !(j + 1 == i && (z_mv ad w).category == 2))) = true
    rw [h1, h3, z_cat]
    by_cases h2 : j + 1 = i
    · subst h2
      simp only [z_okst, hj] at hi
      simpa using hi
    · have : (j + 1 == i) = false := by simpa using h2
      simp [this]
-- a method's constants: code, own class, number of locals, answer's type, its name, level (of calls below it)
abbrev z_MC : Type := ByteArray × String × Nat × Option FieldType × MethodName × Nat
def z_ws (cx : z_MC) : List Cond := Cond.code cx.2.2.2.2.1 cx.1 cx.2.2.1 cx.2.2.2.1 :: z_tb
def z_rm (lv : Nat) : Room := { frames := lv, cells := 0, slots := 0, locals := 36 * lv }
def z_Pre (D : va_G) (cy : Nat → ClassId) (ad : Nat → Nat) (M : z_Mem) (U : State) : Prop := va_P D vwCl (z_wd cy ad M) U.heap ∧ va_K D vwCl (z_ty cy) U ∧ va_D (z_A ad) (z_wd cy ad M) ∧ z_st ad U U.heap
def z_Q (D : va_G) (cy : Nat → ClassId) (ad : Nat → Nat) (r : Option Value) (M : z_Mem) : Array Value → State → Outcome → State → Prop := fun _ st oc t => (oc = .returned (r.map (z_mv ad)) ∧ z_Pre D cy ad M t) ∧ va_F (z_A ad) st t
def z_Fx (cx : z_MC) (D : va_G) (cy : Nat → ClassId) (ad : Nat → Nat) (p : Program) (s : State) (m : MethodId) (args : Array Value) (meth : Method) (c : Code) : Prop := p.tables.exec = Jvm.exec ∧ c.code = cx.1 ∧ c.maxLocals = cx.2.2.1 ∧ meth.sig.returnType = cx.2.2.2.1 ∧ s.vm.findClass cx.2.1 = some m.cls ∧ (∀ w ∈ z_ws cx, w.before args s = true) ∧ meth.locks = false ∧ va_K D vwCl (z_ty cy) s ∧ z_st ad s s.heap
def z_Wo (D : va_G) (cy : Nat → ClassId) (ad : Nat → Nat) (s : State) (M : z_Mem) (H : Heap) (locs : List Loc) : Prop := va_P D vwCl (z_wd cy ad M) H ∧ va_D (z_A ad) (z_wd cy ad M) ∧ va_S (z_A ad) s.heap H locs
/-- from this frame over this memory the method comes to its end, with the answer r over the memory M2 -/
def z_Sm (cx : z_MC) (r : Option Value) (M2 : z_Mem) (pc : Nat) (ls : List (Option Value)) (st : List Value) (M : z_Mem) : Prop :=
  ∀ (l : Launch) (D : va_G) (cy : Nat → ClassId) (ad : Nat → Nat) (p : Program) (e : Env) (s : State) (m : MethodId) (args : Array Value) (below : List Frame) (meth : Method) (c : Code) (H : Heap) (locs : List Loc) (ar : Array Slot),
    z_Fx cx D cy ad p s m args meth c → z_Wo D cy ad s M H locs → z_Lo ad cx.2.2.1 ls ar →
    W p l e (z_rm cx.2.2.2.2.2) s m args below meth c H locs 0 0 (MQ below (z_Q D cy ad r M2) args s 0 0 (z_A ad)) (F0 m pc ar (st.map (z_mv ad)))

theorem z_iconst {cx : z_MC} {r : Option Value} {M M2 : z_Mem} {pc : Nat} {ls : List (Option Value)} {st : List Value} {n : Int} {v : Int32} (d : decode cx.1 pc = .ok (.iconst n, 1)) (hv : Int32.ofInt n = v) (k : z_Sm cx r M2 (pc + 1) ls (.int v :: st) M) : z_Sm cx r M2 pc ls (st) M := by
  intro l D cy ad p e s m args below meth c H locs ar F w h
  exact lv_iconst F.1 F.2.1 d hv (k l D cy ad p e s m args below meth c H locs ar F w h)
theorem z_bipush {cx : z_MC} {r : Option Value} {M M2 : z_Mem} {pc : Nat} {ls : List (Option Value)} {st : List Value} {n : Int} {v : Int32} (d : decode cx.1 pc = .ok (.bipush n, 2)) (hv : (Int8.ofInt n).toInt32 = v) (k : z_Sm cx r M2 (pc + 2) ls (.int v :: st) M) : z_Sm cx r M2 pc ls (st) M := by
  intro l D cy ad p e s m args below meth c H locs ar F w h
  exact lv_bipush F.1 F.2.1 d hv (k l D cy ad p e s m args below meth c H locs ar F w h)
theorem z_sipush {cx : z_MC} {r : Option Value} {M M2 : z_Mem} {pc : Nat} {ls : List (Option Value)} {st : List Value} {n : Int} {v : Int32} (d : decode cx.1 pc = .ok (.sipush n, 3)) (hv : (Int16.ofInt n).toInt32 = v) (k : z_Sm cx r M2 (pc + 3) ls (.int v :: st) M) : z_Sm cx r M2 pc ls (st) M := by
  intro l D cy ad p e s m args below meth c H locs ar F w h
  exact lv_sipush F.1 F.2.1 d hv (k l D cy ad p e s m args below meth c H locs ar F w h)
theorem z_lconst {cx : z_MC} {r : Option Value} {M M2 : z_Mem} {pc : Nat} {ls : List (Option Value)} {st : List Value} {n : Fin 2} {v : Int64} (d : decode cx.1 pc = .ok (.lconst n, 1)) (hv : Int64.ofNat (n : Nat) = v) (k : z_Sm cx r M2 (pc + 1) ls (.long v :: st) M) : z_Sm cx r M2 pc ls (st) M := by
  intro l D cy ad p e s m args below meth c H locs ar F w h
  exact lv_lconst F.1 F.2.1 d hv (k l D cy ad p e s m args below meth c H locs ar F w h)
theorem z_iadd {cx : z_MC} {r : Option Value} {M M2 : z_Mem} {pc : Nat} {ls : List (Option Value)} {st : List Value} {x y : Int32} (d : decode cx.1 pc = .ok (.iadd, 1)) (k : z_Sm cx r M2 (pc + 1) ls (.int (x + y) :: st) M) : z_Sm cx r M2 pc ls (.int y :: .int x :: st) M := by
  intro l D cy ad p e s m args below meth c H locs ar F w h
  exact lv_iadd F.1 F.2.1 d (k l D cy ad p e s m args below meth c H locs ar F w h)
theorem z_isub {cx : z_MC} {r : Option Value} {M M2 : z_Mem} {pc : Nat} {ls : List (Option Value)} {st : List Value} {x y : Int32} (d : decode cx.1 pc = .ok (.isub, 1)) (k : z_Sm cx r M2 (pc + 1) ls (.int (x - y) :: st) M) : z_Sm cx r M2 pc ls (.int y :: .int x :: st) M := by
  intro l D cy ad p e s m args below meth c H locs ar F w h
  exact lv_isub F.1 F.2.1 d (k l D cy ad p e s m args below meth c H locs ar F w h)
theorem z_imul {cx : z_MC} {r : Option Value} {M M2 : z_Mem} {pc : Nat} {ls : List (Option Value)} {st : List Value} {x y : Int32} (d : decode cx.1 pc = .ok (.imul, 1)) (k : z_Sm cx r M2 (pc + 1) ls (.int (x * y) :: st) M) : z_Sm cx r M2 pc ls (.int y :: .int x :: st) M := by
  intro l D cy ad p e s m args below meth c H locs ar F w h
  exact lv_imul F.1 F.2.1 d (k l D cy ad p e s m args below meth c H locs ar F w h)
theorem z_iand {cx : z_MC} {r : Option Value} {M M2 : z_Mem} {pc : Nat} {ls : List (Option Value)} {st : List Value} {x y : Int32} (d : decode cx.1 pc = .ok (.iand, 1)) (k : z_Sm cx r M2 (pc + 1) ls (.int (x &&& y) :: st) M) : z_Sm cx r M2 pc ls (.int y :: .int x :: st) M := by
  intro l D cy ad p e s m args below meth c H locs ar F w h
  exact lv_iand F.1 F.2.1 d (k l D cy ad p e s m args below meth c H locs ar F w h)
theorem z_ior {cx : z_MC} {r : Option Value} {M M2 : z_Mem} {pc : Nat} {ls : List (Option Value)} {st : List Value} {x y : Int32} (d : decode cx.1 pc = .ok (.ior, 1)) (k : z_Sm cx r M2 (pc + 1) ls (.int (x ||| y) :: st) M) : z_Sm cx r M2 pc ls (.int y :: .int x :: st) M := by
  intro l D cy ad p e s m args below meth c H locs ar F w h
  exact lv_ior F.1 F.2.1 d (k l D cy ad p e s m args below meth c H locs ar F w h)
theorem z_ixor {cx : z_MC} {r : Option Value} {M M2 : z_Mem} {pc : Nat} {ls : List (Option Value)} {st : List Value} {x y : Int32} (d : decode cx.1 pc = .ok (.ixor, 1)) (k : z_Sm cx r M2 (pc + 1) ls (.int (x ^^^ y) :: st) M) : z_Sm cx r M2 pc ls (.int y :: .int x :: st) M := by
  intro l D cy ad p e s m args below meth c H locs ar F w h
  exact lv_ixor F.1 F.2.1 d (k l D cy ad p e s m args below meth c H locs ar F w h)
theorem z_ishl {cx : z_MC} {r : Option Value} {M M2 : z_Mem} {pc : Nat} {ls : List (Option Value)} {st : List Value} {x y : Int32} (d : decode cx.1 pc = .ok (.ishl, 1)) (k : z_Sm cx r M2 (pc + 1) ls (.int (x <<< (y &&& 31)) :: st) M) : z_Sm cx r M2 pc ls (.int y :: .int x :: st) M := by
  intro l D cy ad p e s m args below meth c H locs ar F w h
  exact lv_ishl F.1 F.2.1 d (k l D cy ad p e s m args below meth c H locs ar F w h)
theorem z_ishr {cx : z_MC} {r : Option Value} {M M2 : z_Mem} {pc : Nat} {ls : List (Option Value)} {st : List Value} {x y : Int32} (d : decode cx.1 pc = .ok (.ishr, 1)) (k : z_Sm cx r M2 (pc + 1) ls (.int (x >>> (y &&& 31)) :: st) M) : z_Sm cx r M2 pc ls (.int y :: .int x :: st) M := by
  intro l D cy ad p e s m args below meth c H locs ar F w h
  exact lv_ishr F.1 F.2.1 d (k l D cy ad p e s m args below meth c H locs ar F w h)
theorem z_idiv {cx : z_MC} {r : Option Value} {M M2 : z_Mem} {pc : Nat} {ls : List (Option Value)} {st : List Value} {x y : Int32} (d : decode cx.1 pc = .ok (.idiv, 1)) (hne : ¬ y = 0) (k : z_Sm cx r M2 (pc + 1) ls (.int (x / y) :: st) M) : z_Sm cx r M2 pc ls (.int y :: .int x :: st) M := by
  intro l D cy ad p e s m args below meth c H locs ar F w h
  exact lv_idiv F.1 F.2.1 d hne (k l D cy ad p e s m args below meth c H locs ar F w h)
theorem z_irem {cx : z_MC} {r : Option Value} {M M2 : z_Mem} {pc : Nat} {ls : List (Option Value)} {st : List Value} {x y : Int32} (d : decode cx.1 pc = .ok (.irem, 1)) (hne : ¬ y = 0) (k : z_Sm cx r M2 (pc + 1) ls (.int (x - x / y * y) :: st) M) : z_Sm cx r M2 pc ls (.int y :: .int x :: st) M := by
  intro l D cy ad p e s m args below meth c H locs ar F w h
  exact lv_irem F.1 F.2.1 d hne (k l D cy ad p e s m args below meth c H locs ar F w h)
theorem z_ladd {cx : z_MC} {r : Option Value} {M M2 : z_Mem} {pc : Nat} {ls : List (Option Value)} {st : List Value} {x y : Int64} (d : decode cx.1 pc = .ok (.ladd, 1)) (k : z_Sm cx r M2 (pc + 1) ls (.long (x + y) :: st) M) : z_Sm cx r M2 pc ls (.long y :: .long x :: st) M := by
  intro l D cy ad p e s m args below meth c H locs ar F w h
  exact lv_ladd F.1 F.2.1 d (k l D cy ad p e s m args below meth c H locs ar F w h)
theorem z_lsub {cx : z_MC} {r : Option Value} {M M2 : z_Mem} {pc : Nat} {ls : List (Option Value)} {st : List Value} {x y : Int64} (d : decode cx.1 pc = .ok (.lsub, 1)) (k : z_Sm cx r M2 (pc + 1) ls (.long (x - y) :: st) M) : z_Sm cx r M2 pc ls (.long y :: .long x :: st) M := by
  intro l D cy ad p e s m args below meth c H locs ar F w h
  exact lv_lsub F.1 F.2.1 d (k l D cy ad p e s m args below meth c H locs ar F w h)
theorem z_lmul {cx : z_MC} {r : Option Value} {M M2 : z_Mem} {pc : Nat} {ls : List (Option Value)} {st : List Value} {x y : Int64} (d : decode cx.1 pc = .ok (.lmul, 1)) (k : z_Sm cx r M2 (pc + 1) ls (.long (x * y) :: st) M) : z_Sm cx r M2 pc ls (.long y :: .long x :: st) M := by
  intro l D cy ad p e s m args below meth c H locs ar F w h
  exact lv_lmul F.1 F.2.1 d (k l D cy ad p e s m args below meth c H locs ar F w h)
theorem z_land {cx : z_MC} {r : Option Value} {M M2 : z_Mem} {pc : Nat} {ls : List (Option Value)} {st : List Value} {x y : Int64} (d : decode cx.1 pc = .ok (.land, 1)) (k : z_Sm cx r M2 (pc + 1) ls (.long (x &&& y) :: st) M) : z_Sm cx r M2 pc ls (.long y :: .long x :: st) M := by
  intro l D cy ad p e s m args below meth c H locs ar F w h
  exact lv_land F.1 F.2.1 d (k l D cy ad p e s m args below meth c H locs ar F w h)
theorem z_lor {cx : z_MC} {r : Option Value} {M M2 : z_Mem} {pc : Nat} {ls : List (Option Value)} {st : List Value} {x y : Int64} (d : decode cx.1 pc = .ok (.lor, 1)) (k : z_Sm cx r M2 (pc + 1) ls (.long (x ||| y) :: st) M) : z_Sm cx r M2 pc ls (.long y :: .long x :: st) M := by
  intro l D cy ad p e s m args below meth c H locs ar F w h
  exact lv_lor F.1 F.2.1 d (k l D cy ad p e s m args below meth c H locs ar F w h)
theorem z_ldiv {cx : z_MC} {r : Option Value} {M M2 : z_Mem} {pc : Nat} {ls : List (Option Value)} {st : List Value} {x y : Int64} (d : decode cx.1 pc = .ok (.ldiv, 1)) (hne : ¬ y = 0) (k : z_Sm cx r M2 (pc + 1) ls (.long (x / y) :: st) M) : z_Sm cx r M2 pc ls (.long y :: .long x :: st) M := by
  intro l D cy ad p e s m args below meth c H locs ar F w h
  exact lv_ldiv F.1 F.2.1 d hne (k l D cy ad p e s m args below meth c H locs ar F w h)
theorem z_lrem {cx : z_MC} {r : Option Value} {M M2 : z_Mem} {pc : Nat} {ls : List (Option Value)} {st : List Value} {x y : Int64} (d : decode cx.1 pc = .ok (.lrem, 1)) (hne : ¬ y = 0) (k : z_Sm cx r M2 (pc + 1) ls (.long (x - x / y * y) :: st) M) : z_Sm cx r M2 pc ls (.long y :: .long x :: st) M := by
  intro l D cy ad p e s m args below meth c H locs ar F w h
  exact lv_lrem F.1 F.2.1 d hne (k l D cy ad p e s m args below meth c H locs ar F w h)
theorem z_ineg {cx : z_MC} {r : Option Value} {M M2 : z_Mem} {pc : Nat} {ls : List (Option Value)} {st : List Value} {x : Int32} (d : decode cx.1 pc = .ok (.ineg, 1)) (k : z_Sm cx r M2 (pc + 1) ls (.int (-x) :: st) M) : z_Sm cx r M2 pc ls (.int x :: st) M := by
  intro l D cy ad p e s m args below meth c H locs ar F w h
  exact lv_ineg F.1 F.2.1 d (k l D cy ad p e s m args below meth c H locs ar F w h)
theorem z_iushr {cx : z_MC} {r : Option Value} {M M2 : z_Mem} {pc : Nat} {ls : List (Option Value)} {st : List Value} {x y v : Int32} (d : decode cx.1 pc = .ok (.iushr, 1)) (hv : (x.toUInt32 >>> (y.toUInt32 &&& Int32.toUInt32 31)).toInt32 = v) (k : z_Sm cx r M2 (pc + 1) ls (.int v :: st) M) : z_Sm cx r M2 pc ls (.int y :: .int x :: st) M := by
  intro l D cy ad p e s m args below meth c H locs ar F w h
  exact lv_iushr F.1 F.2.1 d hv (k l D cy ad p e s m args below meth c H locs ar F w h)
theorem z_lushr {cx : z_MC} {r : Option Value} {M M2 : z_Mem} {pc : Nat} {ls : List (Option Value)} {st : List Value} {x v : Int64} {y : Int32} (d : decode cx.1 pc = .ok (.lushr, 1)) (hv : (x.toUInt64 >>> (y.toInt64.toUInt64 &&& Int64.toUInt64 63)).toInt64 = v) (k : z_Sm cx r M2 (pc + 1) ls (.long v :: st) M) : z_Sm cx r M2 pc ls (.int y :: .long x :: st) M := by
  intro l D cy ad p e s m args below meth c H locs ar F w h
  exact lv_lushr F.1 F.2.1 d hv (k l D cy ad p e s m args below meth c H locs ar F w h)
theorem z_lshl {cx : z_MC} {r : Option Value} {M M2 : z_Mem} {pc : Nat} {ls : List (Option Value)} {st : List Value} {x v : Int64} {y : Int32} (d : decode cx.1 pc = .ok (.lshl, 1)) (hv : x <<< (y.toInt64 &&& 63) = v) (k : z_Sm cx r M2 (pc + 1) ls (.long v :: st) M) : z_Sm cx r M2 pc ls (.int y :: .long x :: st) M := by
  intro l D cy ad p e s m args below meth c H locs ar F w h
  exact lv_lshl F.1 F.2.1 d hv (k l D cy ad p e s m args below meth c H locs ar F w h)
theorem z_i2l {cx : z_MC} {r : Option Value} {M M2 : z_Mem} {pc : Nat} {ls : List (Option Value)} {st : List Value} {x : Int32} {v : Int64} (d : decode cx.1 pc = .ok (.i2l, 1)) (hv : x.toInt64 = v) (k : z_Sm cx r M2 (pc + 1) ls (.long v :: st) M) : z_Sm cx r M2 pc ls (.int x :: st) M := by
  intro l D cy ad p e s m args below meth c H locs ar F w h
  exact lv_i2l F.1 F.2.1 d hv (k l D cy ad p e s m args below meth c H locs ar F w h)
theorem z_l2i {cx : z_MC} {r : Option Value} {M M2 : z_Mem} {pc : Nat} {ls : List (Option Value)} {st : List Value} {x : Int64} {v : Int32} (d : decode cx.1 pc = .ok (.l2i, 1)) (hv : x.toInt32 = v) (k : z_Sm cx r M2 (pc + 1) ls (.int v :: st) M) : z_Sm cx r M2 pc ls (.long x :: st) M := by
  intro l D cy ad p e s m args below meth c H locs ar F w h
  exact lv_l2i F.1 F.2.1 d hv (k l D cy ad p e s m args below meth c H locs ar F w h)
theorem z_lcmp {cx : z_MC} {r : Option Value} {M M2 : z_Mem} {pc : Nat} {ls : List (Option Value)} {st : List Value} {x y : Int64} (d : decode cx.1 pc = .ok (.lcmp, 1)) (k : z_Sm cx r M2 (pc + 1) ls (.int (lg_cmp x y) :: st) M) : z_Sm cx r M2 pc ls (.long y :: .long x :: st) M := by
  intro l D cy ad p e s m args below meth c H locs ar F w h
  exact W.lcmp F.1 F.2.1 d (k l D cy ad p e s m args below meth c H locs ar F w h)
theorem z_dup {cx : z_MC} {r : Option Value} {M M2 : z_Mem} {pc : Nat} {ls : List (Option Value)} {st : List Value} {va : Value} (d : decode cx.1 pc = .ok (.dup, 1)) (hva : va.category = 1) (k : z_Sm cx r M2 (pc + 1) ls (va :: va :: st) M) : z_Sm cx r M2 pc ls (va :: st) M := by
  intro l D cy ad p e s m args below meth c H locs ar F w h
  exact lv_dup F.1 F.2.1 d ((z_cat ad va).trans hva) (k l D cy ad p e s m args below meth c H locs ar F w h)
theorem z_pop {cx : z_MC} {r : Option Value} {M M2 : z_Mem} {pc : Nat} {ls : List (Option Value)} {st : List Value} {va : Value} (d : decode cx.1 pc = .ok (.pop, 1)) (hva : va.category = 1) (k : z_Sm cx r M2 (pc + 1) ls (st) M) : z_Sm cx r M2 pc ls (va :: st) M := by
  intro l D cy ad p e s m args below meth c H locs ar F w h
  exact lv_pop F.1 F.2.1 d ((z_cat ad va).trans hva) (k l D cy ad p e s m args below meth c H locs ar F w h)
theorem z_dup_x1 {cx : z_MC} {r : Option Value} {M M2 : z_Mem} {pc : Nat} {ls : List (Option Value)} {st : List Value} {va : Value} {vb : Value} (d : decode cx.1 pc = .ok (.dup_x1, 1)) (hva : va.category = 1) (hvb : vb.category = 1) (k : z_Sm cx r M2 (pc + 1) ls (va :: vb :: va :: st) M) : z_Sm cx r M2 pc ls (va :: vb :: st) M := by
  intro l D cy ad p e s m args below meth c H locs ar F w h
  exact lv_dup_x1 F.1 F.2.1 d ((z_cat ad va).trans hva) ((z_cat ad vb).trans hvb) (k l D cy ad p e s m args below meth c H locs ar F w h)
theorem z_dup2 {cx : z_MC} {r : Option Value} {M M2 : z_Mem} {pc : Nat} {ls : List (Option Value)} {st : List Value} {va : Value} {vb : Value} (d : decode cx.1 pc = .ok (.dup2, 1)) (hva : va.category = 1) (hvb : vb.category = 1) (k : z_Sm cx r M2 (pc + 1) ls (va :: vb :: va :: vb :: st) M) : z_Sm cx r M2 pc ls (va :: vb :: st) M := by
  intro l D cy ad p e s m args below meth c H locs ar F w h
  exact lv_dup2_11 F.1 F.2.1 d ((z_cat ad va).trans hva) ((z_cat ad vb).trans hvb) (k l D cy ad p e s m args below meth c H locs ar F w h)
theorem z_dup2L {cx : z_MC} {r : Option Value} {M M2 : z_Mem} {pc : Nat} {ls : List (Option Value)} {st : List Value} {va : Value} (d : decode cx.1 pc = .ok (.dup2, 1)) (hva : va.category = 2) (k : z_Sm cx r M2 (pc + 1) ls (va :: va :: st) M) : z_Sm cx r M2 pc ls (va :: st) M := by
  intro l D cy ad p e s m args below meth c H locs ar F w h
  exact lv_dup2_2 F.1 F.2.1 d ((z_cat ad va).trans hva) (k l D cy ad p e s m args below meth c H locs ar F w h)
theorem z_iload {cx : z_MC} {r : Option Value} {M M2 : z_Mem} {pc : Nat} {ls : List (Option Value)} {st : List Value} {i : Nat} {x : Int32} (d : decode cx.1 pc = .ok (.iload i, 2)) (hl : ls[i]? = some (some (.int x))) (k : z_Sm cx r M2 (pc + 2) ls (.int x :: st) M) : z_Sm cx r M2 pc ls st M := by
  intro l D cy ad p e s m args below meth c H locs ar F w h
  exact lv_iload F.1 F.2.1 d (h.2.2 _ _ hl) (k l D cy ad p e s m args below meth c H locs ar F w h)
theorem z_iload_n {cx : z_MC} {r : Option Value} {M M2 : z_Mem} {pc : Nat} {ls : List (Option Value)} {st : List Value} {i : Fin 4} {x : Int32} (d : decode cx.1 pc = .ok (.iload_n i, 1)) (hl : ls[(i : Nat)]? = some (some (.int x))) (k : z_Sm cx r M2 (pc + 1) ls (.int x :: st) M) : z_Sm cx r M2 pc ls st M := by
  intro l D cy ad p e s m args below meth c H locs ar F w h
  exact lv_iload_n F.1 F.2.1 d rfl (h.2.2 _ _ hl) (k l D cy ad p e s m args below meth c H locs ar F w h)
theorem z_lload {cx : z_MC} {r : Option Value} {M M2 : z_Mem} {pc : Nat} {ls : List (Option Value)} {st : List Value} {i : Nat} {x : Int64} (d : decode cx.1 pc = .ok (.lload i, 2)) (hl : ls[i]? = some (some (.long x))) (k : z_Sm cx r M2 (pc + 2) ls (.long x :: st) M) : z_Sm cx r M2 pc ls st M := by
  intro l D cy ad p e s m args below meth c H locs ar F w h
  exact lv_lload F.1 F.2.1 d (h.2.2 _ _ hl) (k l D cy ad p e s m args below meth c H locs ar F w h)
theorem z_lload_n {cx : z_MC} {r : Option Value} {M M2 : z_Mem} {pc : Nat} {ls : List (Option Value)} {st : List Value} {i : Fin 4} {x : Int64} (d : decode cx.1 pc = .ok (.lload_n i, 1)) (hl : ls[(i : Nat)]? = some (some (.long x))) (k : z_Sm cx r M2 (pc + 1) ls (.long x :: st) M) : z_Sm cx r M2 pc ls st M := by
  intro l D cy ad p e s m args below meth c H locs ar F w h
  exact lv_lload_n F.1 F.2.1 d rfl (h.2.2 _ _ hl) (k l D cy ad p e s m args below meth c H locs ar F w h)
theorem z_aload {cx : z_MC} {r : Option Value} {M M2 : z_Mem} {pc : Nat} {ls : List (Option Value)} {st : List Value} {i : Nat} {x : Nat} (d : decode cx.1 pc = .ok (.aload i, 2)) (hl : ls[i]? = some (some (.ref x))) (k : z_Sm cx r M2 (pc + 2) ls (.ref x :: st) M) : z_Sm cx r M2 pc ls st M := by
  intro l D cy ad p e s m args below meth c H locs ar F w h
  exact lv_aload F.1 F.2.1 d (h.2.2 _ _ hl) (k l D cy ad p e s m args below meth c H locs ar F w h)
theorem z_aload_n {cx : z_MC} {r : Option Value} {M M2 : z_Mem} {pc : Nat} {ls : List (Option Value)} {st : List Value} {i : Fin 4} {x : Nat} (d : decode cx.1 pc = .ok (.aload_n i, 1)) (hl : ls[(i : Nat)]? = some (some (.ref x))) (k : z_Sm cx r M2 (pc + 1) ls (.ref x :: st) M) : z_Sm cx r M2 pc ls st M := by
  intro l D cy ad p e s m args below meth c H locs ar F w h
  exact lv_aload_n F.1 F.2.1 d rfl (h.2.2 _ _ hl) (k l D cy ad p e s m args below meth c H locs ar F w h)
theorem z_istore {cx : z_MC} {r : Option Value} {M M2 : z_Mem} {pc : Nat} {ls : List (Option Value)} {st : List Value} {i : Nat} {x : Int32} (d : decode cx.1 pc = .ok (.istore i, 2)) (hi : z_okst i ls = true) (hn : i < cx.2.2.1) (k : z_Sm cx r M2 (pc + 2) (ls.set i (some (.int x))) st M) : z_Sm cx r M2 pc ls (.int x :: st) M := by
  intro l D cy ad p e s m args below meth c H locs ar F w h
  exact lv_istore F.1 F.2.1 d (z_lvh h) hn rfl (fun ar2 h2 => k l D cy ad p e s m args below meth c H locs ar2 F w (z_lv1 (v := .int x) hi h2))
theorem z_istore_n {cx : z_MC} {r : Option Value} {M M2 : z_Mem} {pc : Nat} {ls : List (Option Value)} {st : List Value} {i : Fin 4} {x : Int32} (d : decode cx.1 pc = .ok (.istore_n i, 1)) (hi : z_okst (i : Nat) ls = true) (hn : (i : Nat) < cx.2.2.1) (k : z_Sm cx r M2 (pc + 1) (ls.set (i : Nat) (some (.int x))) st M) : z_Sm cx r M2 pc ls (.int x :: st) M := by
  intro l D cy ad p e s m args below meth c H locs ar F w h
  exact lv_istore_n F.1 F.2.1 d rfl (z_lvh h) hn rfl (fun ar2 h2 => k l D cy ad p e s m args below meth c H locs ar2 F w (z_lv1 (v := .int x) hi h2))
theorem z_astore {cx : z_MC} {r : Option Value} {M M2 : z_Mem} {pc : Nat} {ls : List (Option Value)} {st : List Value} {i : Nat} {x : Nat} (d : decode cx.1 pc = .ok (.astore i, 2)) (hi : z_okst i ls = true) (hn : i < cx.2.2.1) (k : z_Sm cx r M2 (pc + 2) (ls.set i (some (.ref x))) st M) : z_Sm cx r M2 pc ls (.ref x :: st) M := by
  intro l D cy ad p e s m args below meth c H locs ar F w h
  exact lv_astore F.1 F.2.1 d (z_lvh h) hn rfl (fun ar2 h2 => k l D cy ad p e s m args below meth c H locs ar2 F w (z_lv1 (v := .ref x) hi h2))
theorem z_astore_n {cx : z_MC} {r : Option Value} {M M2 : z_Mem} {pc : Nat} {ls : List (Option Value)} {st : List Value} {i : Fin 4} {x : Nat} (d : decode cx.1 pc = .ok (.astore_n i, 1)) (hi : z_okst (i : Nat) ls = true) (hn : (i : Nat) < cx.2.2.1) (k : z_Sm cx r M2 (pc + 1) (ls.set (i : Nat) (some (.ref x))) st M) : z_Sm cx r M2 pc ls (.ref x :: st) M := by
  intro l D cy ad p e s m args below meth c H locs ar F w h
  exact lv_astore_n F.1 F.2.1 d rfl (z_lvh h) hn rfl (fun ar2 h2 => k l D cy ad p e s m args below meth c H locs ar2 F w (z_lv1 (v := .ref x) hi h2))
theorem z_lstore {cx : z_MC} {r : Option Value} {M M2 : z_Mem} {pc : Nat} {ls : List (Option Value)} {st : List Value} {i : Nat} {x : Int64} (d : decode cx.1 pc = .ok (.lstore i, 2)) (hi : z_okst i ls = true) (hn : i + 1 < cx.2.2.1) (k : z_Sm cx r M2 (pc + 2) ((ls.set i (some (.long x))).set (i + 1) none) st M) : z_Sm cx r M2 pc ls (.long x :: st) M := by
  intro l D cy ad p e s m args below meth c H locs ar F w h
  exact lv_lstore F.1 F.2.1 d (z_lvh h) hn rfl (fun ar2 h2 => k l D cy ad p e s m args below meth c H locs ar2 F w (z_lv2 (v := .long x) hi h2))
theorem z_lstore_n {cx : z_MC} {r : Option Value} {M M2 : z_Mem} {pc : Nat} {ls : List (Option Value)} {st : List Value} {i : Fin 4} {x : Int64} (d : decode cx.1 pc = .ok (.lstore_n i, 1)) (hi : z_okst (i : Nat) ls = true) (hn : (i : Nat) + 1 < cx.2.2.1) (k : z_Sm cx r M2 (pc + 1) ((ls.set (i : Nat) (some (.long x))).set ((i : Nat) + 1) none) st M) : z_Sm cx r M2 pc ls (.long x :: st) M := by
  intro l D cy ad p e s m args below meth c H locs ar F w h
  exact lv_lstore_n F.1 F.2.1 d rfl (z_lvh h) hn rfl (fun ar2 h2 => k l D cy ad p e s m args below meth c H locs ar2 F w (z_lv2 (v := .long x) hi h2))
theorem z_icmp_eq {cx : z_MC} {r : Option Value} {M M2 : z_Mem} {pc : Nat} {ls : List (Option Value)} {st : List Value} {x y : Int32} {off : Int} {tgt : Nat} (d : decode cx.1 pc = .ok (.if_icmp .eq off, 3)) (ht : (pc : Int) + off = (tgt : Int)) (kt : x = y → z_Sm cx r M2 tgt ls st M) (kf : ¬ x = y → z_Sm cx r M2 (pc + 3) ls st M) : z_Sm cx r M2 pc ls (.int y :: .int x :: st) M := by
  intro l D cy ad p e s m args below meth c H locs ar F w h
  exact lv_icmp_eq F.1 F.2.1 d ht (fun q => kt q l D cy ad p e s m args below meth c H locs ar F w h) (fun q => kf q l D cy ad p e s m args below meth c H locs ar F w h)
theorem z_if_eq {cx : z_MC} {r : Option Value} {M M2 : z_Mem} {pc : Nat} {ls : List (Option Value)} {st : List Value} {x : Int32} {off : Int} {tgt : Nat} (d : decode cx.1 pc = .ok (.ifCond .eq off, 3)) (ht : (pc : Int) + off = (tgt : Int)) (kt : x = 0 → z_Sm cx r M2 tgt ls st M) (kf : ¬ x = 0 → z_Sm cx r M2 (pc + 3) ls st M) : z_Sm cx r M2 pc ls (.int x :: st) M := by
  intro l D cy ad p e s m args below meth c H locs ar F w h
  exact lv_if_eq F.1 F.2.1 d ht (fun q => kt q l D cy ad p e s m args below meth c H locs ar F w h) (fun q => kf q l D cy ad p e s m args below meth c H locs ar F w h)
theorem z_icmp_ne {cx : z_MC} {r : Option Value} {M M2 : z_Mem} {pc : Nat} {ls : List (Option Value)} {st : List Value} {x y : Int32} {off : Int} {tgt : Nat} (d : decode cx.1 pc = .ok (.if_icmp .ne off, 3)) (ht : (pc : Int) + off = (tgt : Int)) (kt : ¬ x = y → z_Sm cx r M2 tgt ls st M) (kf : x = y → z_Sm cx r M2 (pc + 3) ls st M) : z_Sm cx r M2 pc ls (.int y :: .int x :: st) M := by
  intro l D cy ad p e s m args below meth c H locs ar F w h
  exact lv_icmp_ne F.1 F.2.1 d ht (fun q => kt q l D cy ad p e s m args below meth c H locs ar F w h) (fun q => kf q l D cy ad p e s m args below meth c H locs ar F w h)
theorem z_if_ne {cx : z_MC} {r : Option Value} {M M2 : z_Mem} {pc : Nat} {ls : List (Option Value)} {st : List Value} {x : Int32} {off : Int} {tgt : Nat} (d : decode cx.1 pc = .ok (.ifCond .ne off, 3)) (ht : (pc : Int) + off = (tgt : Int)) (kt : ¬ x = 0 → z_Sm cx r M2 tgt ls st M) (kf : x = 0 → z_Sm cx r M2 (pc + 3) ls st M) : z_Sm cx r M2 pc ls (.int x :: st) M := by
  intro l D cy ad p e s m args below meth c H locs ar F w h
  exact lv_if_ne F.1 F.2.1 d ht (fun q => kt q l D cy ad p e s m args below meth c H locs ar F w h) (fun q => kf q l D cy ad p e s m args below meth c H locs ar F w h)
theorem z_icmp_lt {cx : z_MC} {r : Option Value} {M M2 : z_Mem} {pc : Nat} {ls : List (Option Value)} {st : List Value} {x y : Int32} {off : Int} {tgt : Nat} (d : decode cx.1 pc = .ok (.if_icmp .lt off, 3)) (ht : (pc : Int) + off = (tgt : Int)) (kt : x < y → z_Sm cx r M2 tgt ls st M) (kf : ¬ x < y → z_Sm cx r M2 (pc + 3) ls st M) : z_Sm cx r M2 pc ls (.int y :: .int x :: st) M := by
  intro l D cy ad p e s m args below meth c H locs ar F w h
  exact lv_icmp_lt F.1 F.2.1 d ht (fun q => kt q l D cy ad p e s m args below meth c H locs ar F w h) (fun q => kf q l D cy ad p e s m args below meth c H locs ar F w h)
theorem z_if_lt {cx : z_MC} {r : Option Value} {M M2 : z_Mem} {pc : Nat} {ls : List (Option Value)} {st : List Value} {x : Int32} {off : Int} {tgt : Nat} (d : decode cx.1 pc = .ok (.ifCond .lt off, 3)) (ht : (pc : Int) + off = (tgt : Int)) (kt : x < 0 → z_Sm cx r M2 tgt ls st M) (kf : ¬ x < 0 → z_Sm cx r M2 (pc + 3) ls st M) : z_Sm cx r M2 pc ls (.int x :: st) M := by
  intro l D cy ad p e s m args below meth c H locs ar F w h
  exact lv_if_lt F.1 F.2.1 d ht (fun q => kt q l D cy ad p e s m args below meth c H locs ar F w h) (fun q => kf q l D cy ad p e s m args below meth c H locs ar F w h)
theorem z_icmp_ge {cx : z_MC} {r : Option Value} {M M2 : z_Mem} {pc : Nat} {ls : List (Option Value)} {st : List Value} {x y : Int32} {off : Int} {tgt : Nat} (d : decode cx.1 pc = .ok (.if_icmp .ge off, 3)) (ht : (pc : Int) + off = (tgt : Int)) (kt : y ≤ x → z_Sm cx r M2 tgt ls st M) (kf : ¬ y ≤ x → z_Sm cx r M2 (pc + 3) ls st M) : z_Sm cx r M2 pc ls (.int y :: .int x :: st) M := by
  intro l D cy ad p e s m args below meth c H locs ar F w h
  exact lv_icmp_ge F.1 F.2.1 d ht (fun q => kt q l D cy ad p e s m args below meth c H locs ar F w h) (fun q => kf q l D cy ad p e s m args below meth c H locs ar F w h)
theorem z_if_ge {cx : z_MC} {r : Option Value} {M M2 : z_Mem} {pc : Nat} {ls : List (Option Value)} {st : List Value} {x : Int32} {off : Int} {tgt : Nat} (d : decode cx.1 pc = .ok (.ifCond .ge off, 3)) (ht : (pc : Int) + off = (tgt : Int)) (kt : 0 ≤ x → z_Sm cx r M2 tgt ls st M) (kf : ¬ 0 ≤ x → z_Sm cx r M2 (pc + 3) ls st M) : z_Sm cx r M2 pc ls (.int x :: st) M := by
  intro l D cy ad p e s m args below meth c H locs ar F w h
  exact lv_if_ge F.1 F.2.1 d ht (fun q => kt q l D cy ad p e s m args below meth c H locs ar F w h) (fun q => kf q l D cy ad p e s m args below meth c H locs ar F w h)
theorem z_icmp_gt {cx : z_MC} {r : Option Value} {M M2 : z_Mem} {pc : Nat} {ls : List (Option Value)} {st : List Value} {x y : Int32} {off : Int} {tgt : Nat} (d : decode cx.1 pc = .ok (.if_icmp .gt off, 3)) (ht : (pc : Int) + off = (tgt : Int)) (kt : y < x → z_Sm cx r M2 tgt ls st M) (kf : ¬ y < x → z_Sm cx r M2 (pc + 3) ls st M) : z_Sm cx r M2 pc ls (.int y :: .int x :: st) M := by
  intro l D cy ad p e s m args below meth c H locs ar F w h
  exact lv_icmp_gt F.1 F.2.1 d ht (fun q => kt q l D cy ad p e s m args below meth c H locs ar F w h) (fun q => kf q l D cy ad p e s m args below meth c H locs ar F w h)
theorem z_if_gt {cx : z_MC} {r : Option Value} {M M2 : z_Mem} {pc : Nat} {ls : List (Option Value)} {st : List Value} {x : Int32} {off : Int} {tgt : Nat} (d : decode cx.1 pc = .ok (.ifCond .gt off, 3)) (ht : (pc : Int) + off = (tgt : Int)) (kt : 0 < x → z_Sm cx r M2 tgt ls st M) (kf : ¬ 0 < x → z_Sm cx r M2 (pc + 3) ls st M) : z_Sm cx r M2 pc ls (.int x :: st) M := by
  intro l D cy ad p e s m args below meth c H locs ar F w h
  exact lv_if_gt F.1 F.2.1 d ht (fun q => kt q l D cy ad p e s m args below meth c H locs ar F w h) (fun q => kf q l D cy ad p e s m args below meth c H locs ar F w h)
theorem z_icmp_le {cx : z_MC} {r : Option Value} {M M2 : z_Mem} {pc : Nat} {ls : List (Option Value)} {st : List Value} {x y : Int32} {off : Int} {tgt : Nat} (d : decode cx.1 pc = .ok (.if_icmp .le off, 3)) (ht : (pc : Int) + off = (tgt : Int)) (kt : x ≤ y → z_Sm cx r M2 tgt ls st M) (kf : ¬ x ≤ y → z_Sm cx r M2 (pc + 3) ls st M) : z_Sm cx r M2 pc ls (.int y :: .int x :: st) M := by
  intro l D cy ad p e s m args below meth c H locs ar F w h
  exact lv_icmp_le F.1 F.2.1 d ht (fun q => kt q l D cy ad p e s m args below meth c H locs ar F w h) (fun q => kf q l D cy ad p e s m args below meth c H locs ar F w h)
theorem z_if_le {cx : z_MC} {r : Option Value} {M M2 : z_Mem} {pc : Nat} {ls : List (Option Value)} {st : List Value} {x : Int32} {off : Int} {tgt : Nat} (d : decode cx.1 pc = .ok (.ifCond .le off, 3)) (ht : (pc : Int) + off = (tgt : Int)) (kt : x ≤ 0 → z_Sm cx r M2 tgt ls st M) (kf : ¬ x ≤ 0 → z_Sm cx r M2 (pc + 3) ls st M) : z_Sm cx r M2 pc ls (.int x :: st) M := by
  intro l D cy ad p e s m args below meth c H locs ar F w h
  exact lv_if_le F.1 F.2.1 d ht (fun q => kt q l D cy ad p e s m args below meth c H locs ar F w h) (fun q => kf q l D cy ad p e s m args below meth c H locs ar F w h)
-- goto, iinc, constants of the pool, switches
theorem z_goto {cx : z_MC} {r : Option Value} {M M2 : z_Mem} {pc : Nat} {ls : List (Option Value)} {st : List Value} {off : Int} {tgt : Nat} (d : decode cx.1 pc = .ok (.goto off, 3)) (ht : (pc : Int) + off = (tgt : Int)) (k : z_Sm cx r M2 tgt ls st M) : z_Sm cx r M2 pc ls st M := by
  intro l D cy ad p e s m args below meth c H locs ar F w h
  exact lv_goto F.1 F.2.1 d ht (k l D cy ad p e s m args below meth c H locs ar F w h)
theorem z_iinc {cx : z_MC} {r : Option Value} {M M2 : z_Mem} {pc : Nat} {ls : List (Option Value)} {st : List Value} {i : Nat} {n : Int} {x v : Int32} (d : decode cx.1 pc = .ok (.iinc i n, 3)) (hl : ls[i]? = some (some (.int x))) (hv : x + Int32.ofInt n = v) (hi : z_okst i ls = true) (hn : i < cx.2.2.1) (k : z_Sm cx r M2 (pc + 3) (ls.set i (some (.int v))) st M) : z_Sm cx r M2 pc ls st M := by
  intro l D cy ad p e s m args below meth c H locs ar F w h
  have hh : lv_has ar cx.2.2.1 ((i, .int x) :: z_lvl ad ls) := by
    refine ⟨h.1, h.2.1, fun q hq => ?_⟩
    rcases List.mem_cons.mp hq with rfl | hq
    · exact h.2.2 _ _ hl
    · exact (z_lvh h).2.2 q hq
  refine lv_iinc (k := 0) F.1 F.2.1 d hh rfl hv hn rfl (fun ar2 h2 => k l D cy ad p e s m args below meth c H locs ar2 F w (z_lv1 (v := .int v) hi ⟨h2.1, h2.2.1, fun q hq => h2.2.2 q ?_⟩))
  rcases List.mem_cons.mp hq with rfl | hq
  · exact List.mem_cons_self
  · exact List.mem_cons_of_mem _ (List.mem_filter.mpr ⟨List.mem_cons_of_mem _ (List.mem_filter.mp hq).1, (List.mem_filter.mp hq).2⟩)
theorem z_ldc2 {cx : z_MC} {r : Option Value} {M M2 : z_Mem} {pc : Nat} {ls : List (Option Value)} {st : List Value} {index : Nat} {v : Int64} (hc : Jvm.Cond.constantLong cx.2.1 index v ∈ z_tb) (d : decode cx.1 pc = .ok (.ldc2_w index, 3)) (k : z_Sm cx r M2 (pc + 3) ls (.long v :: st) M) : z_Sm cx r M2 pc ls st M := by
  intro l D cy ad p e s m args below meth c H locs ar F w h
  exact lv_ldc2 F.1 F.2.1 F.2.2.2.2.1 (F.2.2.2.2.2.1 _ (List.mem_cons_of_mem _ hc)) d (k l D cy ad p e s m args below meth c H locs ar F w h)
theorem z_ldcw {cx : z_MC} {r : Option Value} {M M2 : z_Mem} {pc : Nat} {ls : List (Option Value)} {st : List Value} {index : Nat} {v : Int32} (hc : Jvm.Cond.constant cx.2.1 index v ∈ z_tb) (d : decode cx.1 pc = .ok (.ldc_w index, 3)) (k : z_Sm cx r M2 (pc + 3) ls (.int v :: st) M) : z_Sm cx r M2 pc ls st M := by
  intro l D cy ad p e s m args below meth c H locs ar F w h
  exact lv_ldcw F.1 F.2.1 F.2.2.2.2.1 (F.2.2.2.2.2.1 _ (List.mem_cons_of_mem _ hc)) d (k l D cy ad p e s m args below meth c H locs ar F w h)
theorem z_tswIn {cx : z_MC} {r : Option Value} {M M2 : z_Mem} {pc : Nat} {ls : List (Option Value)} {st : List Value} {dflt lo hi off : Int} {offs : Array Int} {len tgt : Nat} {x : Int32} (d : decode cx.1 pc = .ok (.tableswitch dflt lo hi offs, len)) (h1 : ¬ x.toInt < lo) (h2 : ¬ hi < x.toInt) (ho : offs[(x.toInt - lo).toNat]? = some off) (ht : (pc : Int) + off = (tgt : Int)) (k : z_Sm cx r M2 tgt ls st M) : z_Sm cx r M2 pc ls (.int x :: st) M := by
  intro l D cy ad p e s m args below meth c H locs ar F w h
  exact lv_tableIn F.1 F.2.1 d h1 h2 ho ht (k l D cy ad p e s m args below meth c H locs ar F w h)
theorem z_tswOut {cx : z_MC} {r : Option Value} {M M2 : z_Mem} {pc : Nat} {ls : List (Option Value)} {st : List Value} {dflt lo hi : Int} {offs : Array Int} {len tgt : Nat} {x : Int32} (d : decode cx.1 pc = .ok (.tableswitch dflt lo hi offs, len)) (h1 : x.toInt < lo ∨ hi < x.toInt) (ht : (pc : Int) + dflt = (tgt : Int)) (k : z_Sm cx r M2 tgt ls st M) : z_Sm cx r M2 pc ls (.int x :: st) M := by
  intro l D cy ad p e s m args below meth c H locs ar F w h
  exact lv_tableOut F.1 F.2.1 d h1 ht (k l D cy ad p e s m args below meth c H locs ar F w h)
-- what a frame needn't know
theorem z_drop {cx : z_MC} {r : Option Value} {M M2 : z_Mem} {pc : Nat} {ls : List (Option Value)} {st : List Value} (i : Nat) (k : z_Sm cx r M2 pc (ls.set i none) st M) : z_Sm cx r M2 pc ls st M := by
  intro l D cy ad p e s m args below meth c H locs ar F w h
  refine k l D cy ad p e s m args below meth c H locs ar F w ⟨h.1, h.2.1, fun j v hj => h.2.2 j v ?_⟩
  by_cases e : i = j
  · subst e
    have hlt := (List.getElem?_eq_some_iff.mp hj).1
    rw [List.length_set] at hlt
    rw [List.getElem?_set_self hlt] at hj
    cases hj
  · rwa [List.getElem?_set_ne e] at hj
theorem z_eq {cx : z_MC} {r : Option Value} {M N M2 : z_Mem} {pc : Nat} {ls ls2 : List (Option Value)} {st st2 : List Value} (h1 : ls = ls2) (h2 : st = st2) (h3 : M = N) (k : z_Sm cx r M2 pc ls2 st2 N) : z_Sm cx r M2 pc ls st M := by
  subst h1; subst h2; subst h3; exact k
-- fields
def z_FL (own : String) (idx ci k : Nat) : Prop := ∃ C T N, vwCl[ci]? = some (C, T, N) ∧ k < N ∧ Cond.fieldLink own idx (T k).1 (T k).2.1 (T k).2.2.1 ∈ z_tb
def z_FP (ci k : Nat) (dsc : String) : Bool := match vwCl[ci]? with
  | some q => (q.2.1 k).2.2.2 == false && (q.2.1 k).2.2.1 == dsc
  | none => false
theorem z_cls {ci : Nat} {C : String} {T : u_T} {N : Nat} (hc : vwCl[ci]? = some (C, T, N)) : (∀ w ∈ u_ws C T N, w ∈ z_tb) ∧ ∃ ty0 : Nat → FieldType, (∀ k, k < N → parseFieldDescriptor (T k).2.2.1 = some (ty0 k)) ∧ ∀ a, a < N → ∀ b, b < N → a ≠ b → (T a).2.1 ≠ (T b).2.1 := by
  match ci, hc with
  | 0, hc => cases hc; exact ⟨z_u0, tyX0, tyX0_ok, nmX0⟩
  | 1, hc => cases hc; exact ⟨z_u1, tyX1, tyX1_ok, nmX1⟩
  | 2, hc => cases hc; exact ⟨z_u2, tyX2, tyX2_ok, nmX2⟩
  | 3, hc => cases hc; exact ⟨z_u3, tyX3, tyX3_ok, nmX3⟩
  | 4, hc => cases hc; exact ⟨z_u4, tyX4, tyX4_ok, nmX4⟩
  | 5, hc => cases hc; exact ⟨z_u5, tyX5, tyX5_ok, nmX5⟩
  | 6, hc => cases hc; exact ⟨z_u6, tyX6, tyX6_ok, nmX6⟩
  | 7, hc => cases hc; exact ⟨z_u7, tyX7, tyX7_ok, nmX7⟩
  | k + 8, hc => simp at hc
theorem z_getf {cx : z_MC} {r : Option Value} {M M2 : z_Mem} {pc : Nat} {ls : List (Option Value)} {st : List Value} {idx ci k id f : Nat} {fks : List Nat} (hf : z_FL cx.2.1 idx ci k) (hs : z_shp[id]? = some (.inr (.inl (ci, fks)))) (hk : fks[k]? = some f) (d : decode cx.1 pc = .ok (.getfield idx, 3)) (kk : z_Sm cx r M2 (pc + 3) ls (z_pv M id k f :: st) M) : z_Sm cx r M2 pc ls (.ref id :: st) M := by
  intro l D cy ad p e s m args below meth c H locs ar F w h
  obtain ⟨C, T, N, hc, hkN, hlk⟩ := hf
  obtain ⟨hui, -⟩ := z_cls hc
  have hget := z_wd_get (cy := cy) (ad := ad) (M := M) hs
  have hv : (z_fs ad M id 0 fks)[k]? = some (z_fv ad M id k f) := by
    have := z_fs_get (ad := ad) (M := M) (id := id) fks 0 k f hk
    rwa [Nat.zero_add] at this
  have K := kk l D cy ad p e s m args below meth c H locs ar F w h
  rw [List.map_cons, z_pv_mv] at K
  exact va_get F.1 F.2.1 F.2.2.2.2.2.1 (fun w9 h9 => List.mem_cons_of_mem _ (hui w9 h9)) F.2.2.2.2.1 F.2.2.2.2.2.2.2.1 w.1 id hget hc k hkN (F.2.2.2.2.2.1 _ (List.mem_cons_of_mem _ hlk)) (fun _ h9 => h9) hv d K
theorem z_getI {cx : z_MC} {r : Option Value} {M M2 : z_Mem} {pc : Nat} {ls : List (Option Value)} {st : List Value} {idx ci k id : Nat} {fks : List Nat} (hf : z_FL cx.2.1 idx ci k) (hs : z_shp[id]? = some (.inr (.inl (ci, fks)))) (hk : fks[k]? = some 0) (d : decode cx.1 pc = .ok (.getfield idx, 3)) (kk : z_Sm cx r M2 (pc + 3) ls (.int (M.1 id k) :: st) M) : z_Sm cx r M2 pc ls (.ref id :: st) M := z_getf hf hs hk d kk
theorem z_getL {cx : z_MC} {r : Option Value} {M M2 : z_Mem} {pc : Nat} {ls : List (Option Value)} {st : List Value} {idx ci k id : Nat} {fks : List Nat} (hf : z_FL cx.2.1 idx ci k) (hs : z_shp[id]? = some (.inr (.inl (ci, fks)))) (hk : fks[k]? = some 1) (d : decode cx.1 pc = .ok (.getfield idx, 3)) (kk : z_Sm cx r M2 (pc + 3) ls (.long (M.2 id k) :: st) M) : z_Sm cx r M2 pc ls (.ref id :: st) M := z_getf hf hs hk d kk
theorem z_getR {cx : z_MC} {r : Option Value} {M M2 : z_Mem} {pc : Nat} {ls : List (Option Value)} {st : List Value} {idx ci k id : Nat} {fks : List Nat} (j : Nat) (hf : z_FL cx.2.1 idx ci k) (hs : z_shp[id]? = some (.inr (.inl (ci, fks)))) (hk : fks[k]? = some (j + 2)) (d : decode cx.1 pc = .ok (.getfield idx, 3)) (kk : z_Sm cx r M2 (pc + 3) ls (.ref j :: st) M) : z_Sm cx r M2 pc ls (.ref id :: st) M := z_getf hf hs hk d kk
theorem z_putI {cx : z_MC} {r : Option Value} {M M2 : z_Mem} {pc : Nat} {ls : List (Option Value)} {st : List Value} {idx ci k id : Nat} {fks : List Nat} {v : Int32} (hf : z_FL cx.2.1 idx ci k) (hp : z_FP ci k "I" = true) (hs : z_shp[id]? = some (.inr (.inl (ci, fks)))) (hk : fks[k]? = some 0) (d : decode cx.1 pc = .ok (.putfield idx, 3)) (kk : z_Sm cx r M2 (pc + 3) ls st (z_set M id k v)) : z_Sm cx r M2 pc ls (.int v :: .ref id :: st) M := by
  intro l D cy ad p e s m args below meth c H locs ar F w h
  obtain ⟨C, T, N, hc, hkN, hlk⟩ := hf
  obtain ⟨hui, ty0, hty, hnm⟩ := z_cls hc
  have hget := z_wd_get (cy := cy) (ad := ad) (M := M) hs
  simp only [z_FP, hc, Bool.and_eq_true, beq_iff_eq] at hp
  have hset : (z_wd cy ad M).set id (ad id, .inr (ci, (z_fs ad M id 0 fks).set k (.int v))) = z_wd cy ad (z_set M id k v) := by
    have e1 : (z_fs ad M id 0 fks).set k (.int v) = z_fs ad (z_set M id k v) id 0 fks := z_fs_set (f := 0) fks 0 k hk (by rw [Nat.zero_add]; simp [z_fv, z_set, z_row, upd]) (fun b hb => by simp [z_set, z_row, upd, show b ≠ k by omega]) (fun _ _ => rfl)
    rw [e1]
    exact z_wd_set (cy := cy) (ad := ad) (M := M) (N := z_set M id k v) (fun a ha => ⟨by simp [z_set, z_row, ha], rfl⟩) hs
  refine va_put (ty := .int) F.1 F.2.1 F.2.2.2.2.2.1 (fun w9 h9 => List.mem_cons_of_mem _ (hui w9 h9)) ty0 hty hnm F.2.2.2.2.1 F.2.2.2.2.2.2.2.1 w.1 w.2.1 w.2.2 id hget hc k hkN (F.2.2.2.2.2.1 _ (List.mem_cons_of_mem _ hlk)) (fun _ h9 => h9) hp.1 (by rw [hp.2]; decide +kernel) rfl rfl (by rw [z_fs_len]; exact (List.getElem?_eq_some_iff.mp hk).1) d (fun H1 locs1 q1 q2 q3 => ?_)
  replace q1 := hset ▸ (show va_P D vwCl ((z_wd cy ad M).set id (ad id, .inr (ci, (z_fs ad M id 0 fks).set k (.int v)))) H1 from q1)
  replace q2 := hset ▸ (show va_D (z_A ad) ((z_wd cy ad M).set id (ad id, .inr (ci, (z_fs ad M id 0 fks).set k (.int v)))) from q2)
  exact kk l D cy ad p e s m args below meth c H1 locs1 ar F ⟨q1, q2, q3⟩ h
theorem z_putL {cx : z_MC} {r : Option Value} {M M2 : z_Mem} {pc : Nat} {ls : List (Option Value)} {st : List Value} {idx ci k id : Nat} {fks : List Nat} {v : Int64} (hf : z_FL cx.2.1 idx ci k) (hp : z_FP ci k "J" = true) (hs : z_shp[id]? = some (.inr (.inl (ci, fks)))) (hk : fks[k]? = some 1) (d : decode cx.1 pc = .ok (.putfield idx, 3)) (kk : z_Sm cx r M2 (pc + 3) ls st (z_setL M id k v)) : z_Sm cx r M2 pc ls (.long v :: .ref id :: st) M := by
  intro l D cy ad p e s m args below meth c H locs ar F w h
  obtain ⟨C, T, N, hc, hkN, hlk⟩ := hf
  obtain ⟨hui, ty0, hty, hnm⟩ := z_cls hc
  have hget := z_wd_get (cy := cy) (ad := ad) (M := M) hs
  simp only [z_FP, hc, Bool.and_eq_true, beq_iff_eq] at hp
  have hset : (z_wd cy ad M).set id (ad id, .inr (ci, (z_fs ad M id 0 fks).set k (.long v))) = z_wd cy ad (z_setL M id k v) := by
    have e1 : (z_fs ad M id 0 fks).set k (.long v) = z_fs ad (z_setL M id k v) id 0 fks := z_fs_set (f := 1) fks 0 k hk (by rw [Nat.zero_add]; simp [z_fv, z_setL]) (fun _ _ => rfl) (fun b hb => by simp [z_setL, show b ≠ k by omega])
    rw [e1]
    exact z_wd_set (cy := cy) (ad := ad) (M := M) (N := z_setL M id k v) (fun a ha => ⟨rfl, by simp [z_setL, ha]⟩) hs
  refine va_put (ty := .long) F.1 F.2.1 F.2.2.2.2.2.1 (fun w9 h9 => List.mem_cons_of_mem _ (hui w9 h9)) ty0 hty hnm F.2.2.2.2.1 F.2.2.2.2.2.2.2.1 w.1 w.2.1 w.2.2 id hget hc k hkN (F.2.2.2.2.2.1 _ (List.mem_cons_of_mem _ hlk)) (fun _ h9 => h9) hp.1 (by rw [hp.2]; decide +kernel) rfl rfl (by rw [z_fs_len]; exact (List.getElem?_eq_some_iff.mp hk).1) d (fun H1 locs1 q1 q2 q3 => ?_)
  replace q1 := hset ▸ (show va_P D vwCl ((z_wd cy ad M).set id (ad id, .inr (ci, (z_fs ad M id 0 fks).set k (.long v)))) H1 from q1)
  replace q2 := hset ▸ (show va_D (z_A ad) ((z_wd cy ad M).set id (ad id, .inr (ci, (z_fs ad M id 0 fks).set k (.long v)))) from q2)
  exact kk l D cy ad p e s m args below meth c H1 locs1 ar F ⟨q1, q2, q3⟩ h
-- arrays
theorem z_iald {cx : z_MC} {r : Option Value} {M M2 : z_Mem} {pc : Nat} {ls : List (Option Value)} {st : List Value} {id n : Nat} {i : Int32} (j : Nat) (hs : z_shp[id]? = some (.inl (0, n))) (hi : i = nI j ∧ j < n ∧ n < 2 ^ 31) (d : decode cx.1 pc = .ok (.iaload, 1)) (kk : z_Sm cx r M2 (pc + 1) ls (.int (M.1 id j) :: st) M) : z_Sm cx r M2 pc ls (.int i :: .ref id :: st) M := by
  intro l D cy ad p e s m args below meth c H locs ar F w h
  obtain ⟨rfl, hj, hn⟩ := hi
  have hget := z_wd_get (cy := cy) (ad := ad) (M := M) hs
  have K := kk l D cy ad p e s m args below meth c H locs ar F w h
  refine va_iald (n := n) (f := M.1 id) F.1 F.2.1 F.2.2.2.2.2.2.2.1 w.1 id 0 hget rfl (vp_in_nI hj hn) d ?_
  rw [nI_clamp (by omega)]
  exact K
theorem z_iast {cx : z_MC} {r : Option Value} {M M2 : z_Mem} {pc : Nat} {ls : List (Option Value)} {st : List Value} {id n : Nat} {i x : Int32} (j : Nat) (hs : z_shp[id]? = some (.inl (0, n))) (hi : i = nI j ∧ j < n ∧ n < 2 ^ 31) (d : decode cx.1 pc = .ok (.iastore, 1)) (kk : z_Sm cx r M2 (pc + 1) ls st (z_set M id j x)) : z_Sm cx r M2 pc ls (.int x :: .int i :: .ref id :: st) M := by
  intro l D cy ad p e s m args below meth c H locs ar F w h
  obtain ⟨rfl, hj, hn⟩ := hi
  have hget := z_wd_get (cy := cy) (ad := ad) (M := M) hs
  have hset : (z_wd cy ad M).set id (ad id, .inl (cy 0, n, .inl (upd (M.1 id) j x))) = z_wd cy ad (z_set M id j x) := by
    have := z_wd_set (cy := cy) (ad := ad) (M := M) (N := z_set M id j x) (fun a ha => ⟨by simp [z_set, z_row, ha], rfl⟩) hs
    rw [z_ent, z_set, z_row_1] at this
    exact this
  refine va_iast (n := n) (f := M.1 id) F.1 F.2.1 F.2.2.2.2.2.2.2.1 w.1 w.2.1 w.2.2 id 0 hget rfl (vp_in_nI hj hn) d (fun H1 locs1 q1 q2 q3 => ?_)
  rw [nI_clamp (by omega), hset] at q1 q2
  exact kk l D cy ad p e s m args below meth c H1 locs1 ar F ⟨q1, q2, q3⟩ h
theorem z_zald {cx : z_MC} {r : Option Value} {M M2 : z_Mem} {pc : Nat} {ls : List (Option Value)} {st : List Value} {id n : Nat} {i : Int32} (j : Nat) (hs : z_shp[id]? = some (.inl (1, n))) (hi : i = nI j ∧ j < n ∧ n < 2 ^ 31) (d : decode cx.1 pc = .ok (.baload, 1)) (kk : z_Sm cx r M2 (pc + 1) ls (.int (M.1 id j) :: st) M) : z_Sm cx r M2 pc ls (.int i :: .ref id :: st) M := by
  intro l D cy ad p e s m args below meth c H locs ar F w h
  obtain ⟨rfl, hj, hn⟩ := hi
  have hget := z_wd_get (cy := cy) (ad := ad) (M := M) hs
  have K := kk l D cy ad p e s m args below meth c H locs ar F w h
  refine va_zald (n := n) (f := M.1 id) F.1 F.2.1 F.2.2.2.2.2.2.2.1 w.1 id 1 hget rfl (vp_in_nI hj hn) d ?_
  rw [nI_clamp (by omega)]
  exact K
theorem z_zast {cx : z_MC} {r : Option Value} {M M2 : z_Mem} {pc : Nat} {ls : List (Option Value)} {st : List Value} {id n : Nat} {i x : Int32} (j : Nat) (hs : z_shp[id]? = some (.inl (1, n))) (hi : i = nI j ∧ j < n ∧ n < 2 ^ 31) (hx : vp_nar .boolean x = x) (d : decode cx.1 pc = .ok (.bastore, 1)) (kk : z_Sm cx r M2 (pc + 1) ls st (z_set M id j x)) : z_Sm cx r M2 pc ls (.int x :: .int i :: .ref id :: st) M := by
  intro l D cy ad p e s m args below meth c H locs ar F w h
  obtain ⟨rfl, hj, hn⟩ := hi
  have hget := z_wd_get (cy := cy) (ad := ad) (M := M) hs
  have hset : (z_wd cy ad M).set id (ad id, .inl (cy 1, n, .inl (upd (M.1 id) j x))) = z_wd cy ad (z_set M id j x) := by
    have := z_wd_set (cy := cy) (ad := ad) (M := M) (N := z_set M id j x) (fun a ha => ⟨by simp [z_set, z_row, ha], rfl⟩) hs
    rw [z_ent, z_set, z_row_1] at this
    exact this
  refine va_zast (n := n) (f := M.1 id) F.1 F.2.1 F.2.2.2.2.2.2.2.1 w.1 w.2.1 w.2.2 id 1 hget rfl (vp_in_nI hj hn) d (fun H1 locs1 q1 q2 q3 => ?_)
  rw [nI_clamp (by omega), hx, hset] at q1 q2
  exact kk l D cy ad p e s m args below meth c H1 locs1 ar F ⟨q1, q2, q3⟩ h
theorem z_aald {cx : z_MC} {r : Option Value} {M M2 : z_Mem} {pc : Nat} {ls : List (Option Value)} {st : List Value} {id q : Nat} {ids : List Nat} {i : Int32} (j : Nat) (hs : z_shp[id]? = some (.inr (.inr ids))) (hi : i = nI j ∧ j < ids.length ∧ ids.length < 2 ^ 31) (hq : ids[j]? = some q) (d : decode cx.1 pc = .ok (.aaload, 1)) (kk : z_Sm cx r M2 (pc + 1) ls (.ref q :: st) M) : z_Sm cx r M2 pc ls (.int i :: .ref id :: st) M := by
  intro l D cy ad p e s m args below meth c H locs ar F w h
  obtain ⟨rfl, hj, hn⟩ := hi
  have hget := z_wd_get (cy := cy) (ad := ad) (M := M) hs
  have K := kk l D cy ad p e s m args below meth c H locs ar F w h
  refine va_aldq (n := ids.length) (f := fun k => (ids[k]?).map ad) (C := "SafetyPins$Plight") F.1 F.2.1 F.2.2.2.2.2.2.2.1 w.1 id 2 hget rfl (vp_in_nI hj hn) d ?_
  rw [nI_clamp (by omega), hq]
  exact K
-- the two static arrays
theorem z_getFA {cx : z_MC} {r : Option Value} {M M2 : z_Mem} {pc : Nat} {ls : List (Option Value)} {st : List Value} {idx : Nat} (hl : Cond.fieldLink cx.2.1 idx "SafetyPins" "FACTORIALS" "[I" ∈ z_tb) (d : decode cx.1 pc = .ok (.getstatic idx, 3)) (kk : z_Sm cx r M2 (pc + 3) ls (.ref 1000 :: st) M) : z_Sm cx r M2 pc ls st M := by
  intro l D cy ad p e s m args below meth c H locs ar F w h
  exact va_gets F.1 F.2.1 F.2.2.2.2.2.2.2.2.1 w.2.2 F.2.2.2.2.1 (F.2.2.2.2.2.1 _ (List.mem_cons_of_mem _ hl)) (fun _ h9 => h9) d (kk l D cy ad p e s m args below meth c H locs ar F w h)
theorem z_getTH {cx : z_MC} {r : Option Value} {M M2 : z_Mem} {pc : Nat} {ls : List (Option Value)} {st : List Value} {idx : Nat} (hl : Cond.fieldLink cx.2.1 idx "SafetyPins" "THOUSANDS" "[J" ∈ z_tb) (d : decode cx.1 pc = .ok (.getstatic idx, 3)) (kk : z_Sm cx r M2 (pc + 3) ls (.ref 1001 :: st) M) : z_Sm cx r M2 pc ls st M := by
  intro l D cy ad p e s m args below meth c H locs ar F w h
  exact va_gets F.1 F.2.1 F.2.2.2.2.2.2.2.2.2.1 w.2.2 F.2.2.2.2.1 (F.2.2.2.2.2.1 _ (List.mem_cons_of_mem _ hl)) (fun _ h9 => h9) d (kk l D cy ad p e s m args below meth c H locs ar F w h)
theorem z_ialdFA {cx : z_MC} {r : Option Value} {M M2 : z_Mem} {pc : Nat} {ls : List (Option Value)} {st : List Value} {i : Int32} (j : Nat) (hi : i = nI j ∧ j < 8) (d : decode cx.1 pc = .ok (.iaload, 1)) (kk : z_Sm cx r M2 (pc + 1) ls (.int (z_FA.getD j 0) :: st) M) : z_Sm cx r M2 pc ls (.int i :: .ref 1000 :: st) M := by
  intro l D cy ad p e s m args below meth c H locs ar F w h
  obtain ⟨rfl, hj⟩ := hi
  exact va_ti F.1 F.2.1 F.2.2.2.2.2.2.2.2.2.2.1 w.2.2 (vp_in_nI hj (by decide)) (by rw [nI_clamp (by omega)]; rfl) d (kk l D cy ad p e s m args below meth c H locs ar F w h)
theorem z_laldTH {cx : z_MC} {r : Option Value} {M M2 : z_Mem} {pc : Nat} {ls : List (Option Value)} {st : List Value} {i : Int32} (j : Nat) (hi : i = nI j ∧ j < 5) (d : decode cx.1 pc = .ok (.laload, 1)) (kk : z_Sm cx r M2 (pc + 1) ls (.long (z_TH.getD j 0) :: st) M) : z_Sm cx r M2 pc ls (.int i :: .ref 1001 :: st) M := by
  intro l D cy ad p e s m args below meth c H locs ar F w h
  obtain ⟨rfl, hj⟩ := hi
  exact va_tl F.1 F.2.1 F.2.2.2.2.2.2.2.2.2.2.2 w.2.2 (vp_in_nI hj (by decide)) (by rw [nI_clamp (by omega)]; rfl) d (kk l D cy ad p e s m args below meth c H locs ar F w h)
-- contracts and calls
def z_Ct (cx : z_MC) (as : List Value) (M : z_Mem) (r : Option Value) (M2 : z_Mem) : Prop :=
  ∀ (l : Launch) (D : va_G) (cy : Nat → ClassId) (ad : Nat → Nat), Met l cx.2.2.2.2.1 (z_ws cx) (z_rm cx.2.2.2.2.2) (va_Pc (as.map (z_mv ad)) (z_Pre D cy ad M)) (z_Q D cy ad r M2) 0 0 (z_A ad)
def z_ents : List Value → List (Option Value)
  | [] => []
  | v :: vs => if v.category = 2 then some v :: none :: z_ents vs else some v :: z_ents vs
theorem z_ents_in {ad : Nat → Nat} : ∀ (vs : List Value) (k i : Nat) (v : Value), (z_ents vs)[i]? = some (some v) → (k + i, z_mv ad v) ∈ lv_args k (vs.map (z_mv ad))
  | [], k, i, v, h => by simp [z_ents] at h
  | u :: vs, k, i, v, h => by
    rw [List.map_cons, lv_args, z_cat]
    by_cases hu : u.category = 2
    · rw [z_ents, if_pos hu] at h
      rw [if_pos hu]
      match i, h with
      | 0, h => simp at h; subst h; exact List.mem_cons_self
      | 1, h => simp at h
      | i + 2, h =>
        have := z_ents_in (ad := ad) vs (k + 2) i v (by simpa using h)
        rw [show k + 2 + i = k + (i + 2) by omega] at this
        exact List.mem_cons_of_mem _ this
    · rw [z_ents, if_neg hu] at h
      rw [if_neg hu]
      match i, h with
      | 0, h => simp at h; subst h; exact List.mem_cons_self
      | i + 1, h =>
        have := z_ents_in (ad := ad) vs (k + 1) i v (by simpa using h)
        rw [show k + 1 + i = k + (i + 1) by omega] at this
        exact List.mem_cons_of_mem _ this
theorem z_ents_len {ad : Nat → Nat} : ∀ vs : List Value, (lg_sl (vs.map (z_mv ad))).length = (z_ents vs).length
  | [] => rfl
  | u :: vs => by
    have ih := z_ents_len (ad := ad) vs
    rw [List.map_cons]
    show (lg_sl (z_mv ad u :: vs.map (z_mv ad))).length = _
    rw [show lg_sl (z_mv ad u :: vs.map (z_mv ad)) = (if (z_mv ad u).category = 2 then [Slot.val (z_mv ad u), .second] else [.val (z_mv ad u)]) ++ lg_sl (vs.map (z_mv ad)) from rfl, z_cat, List.length_append, ih, z_ents]
    by_cases hu : u.category = 2
    · rw [if_pos hu, if_pos hu]; simp; omega
    · rw [if_neg hu, if_neg hu]; simp; omega
def z_ent0 (nL : Nat) (as : List Value) : List (Option Value) := z_ents as ++ List.replicate (nL - (z_ents as).length) none
theorem z_entry {cx : z_MC} {as : List Value} {M M2 : z_Mem} {r : Option Value} (hp : plainFor cx.2.2.2.2.1 = true) (hlen : (z_ents as).length ≤ cx.2.2.1) (hcl : cx.2.2.2.2.1.cls = cx.2.1) (k : z_Sm cx r M2 0 (z_ent0 cx.2.2.1 as) [] M) : z_Ct cx as M r M2 := by
  intro l D cy ad
  refine va_MetF (cc := cx.1) (maxL := cx.2.2.1) (ret := cx.2.2.2.1) hp rfl ?_
  intro p e s m args below meth c s₁ B hml hv
  obtain ⟨rfl, hP, hK, hD, hZ⟩ := hv
  have hts := atoms_spec (ws := z_ws cx) B.pre
  have hown : s.vm.findClass cx.2.2.2.2.1.cls = some m.cls := findClass_of_methodNamed B.named
  have hl := lv_entry (as.map (z_mv ad)) (n := cx.2.2.1) (by rw [z_ents_len]; exact hlen)
  rw [lg_entry_eq]
  refine k l D cy ad p e s m _ below meth c s.heap [] _ ⟨B.exec, B.bytes, hml, B.returns, hcl ▸ hown, hts, B.notSynchronized, hK, hZ⟩ ⟨hP, hD, va_S.rf⟩ ⟨hl.1, hl.2.1, fun i v hi => ?_⟩
  refine hl.2.2 (i, z_mv ad v) ?_
  have hi2 : (z_ents as)[i]? = some (some v) := by
    by_cases h9 : i < (z_ents as).length
    · rwa [z_ent0, List.getElem?_append_left h9] at hi
    · rw [z_ent0, List.getElem?_append_right (by omega)] at hi
      have := List.eq_of_mem_replicate (List.mem_of_getElem? hi)
      cases this
  have := z_ents_in (ad := ad) as 0 i v hi2
  rwa [Nat.zero_add] at this
theorem z_blind {D : va_G} {cy : Nat → ClassId} {ad : Nat → Nat} {M : z_Mem} {av : List Value} : FrameBlind (va_Pc av (z_Pre D cy ad M)) := fun a U g mk q => ⟨q.1, q.2.1, va_K.moved (u := U) (U := U.calling g mk a) (Vm.Alike.refl U.vm) q.2.2.1, q.2.2.2.1, z_st_moved (u := U) (U := U.calling g mk a) (Vm.Alike.refl U.vm) q.2.2.2.2⟩
theorem z_pre_at {cx : z_MC} {D : va_G} {cy : Nat → ClassId} {ad : Nat → Nat} {p : Program} {s : State} {m : MethodId} {args : Array Value} {meth : Method} {c : Code} {M : z_Mem} {H : Heap} {locs : List Loc} {U : State} (F : z_Fx cx D cy ad p s m args meth c) (w : z_Wo D cy ad s M H locs) (hU : U.heap = H) (hW : s.WarmedH U.vm) : z_Pre D cy ad M U := by
  refine ⟨by rw [hU]; exact w.1, va_K.moved hW.alike F.2.2.2.2.2.2.2.1, w.2.1, ?_⟩
  rw [hU]
  exact z_st_kept (z_st_moved hW.alike F.2.2.2.2.2.2.2.2) w.2.2.2.1
theorem z_after {cx : z_MC} {r ro : Option Value} {M1 M2 : z_Mem} {pc : Nat} {ls : List (Option Value)} {st : List Value} (kk : z_Sm cx r M2 (pc + 3) ls (ro.toList ++ st) M1)
    {l : Launch} {D : va_G} {cy : Nat → ClassId} {ad : Nat → Nat} {p : Program} {e : Env} {s : State} {m : MethodId} {args : Array Value} {below : List Frame} {meth : Method} {c : Code} {H : Heap} {locs : List Loc} {ar : Array Slot} {M : z_Mem} {st0 : List Value} {a : Array Value}
    (F : z_Fx cx D cy ad p s m args meth c) (w : z_Wo D cy ad s M H locs) (h : z_Lo ad cx.2.2.1 ls ar)
    (hr : va_Run p l e (z_rm cx.2.2.2.2.2) s m args below meth c H locs 0 0 0 0 (F0 m pc ar st0) (st.map (z_mv ad)) (z_Q D cy ad ro M1 a) (z_A ad)) : W p l e (z_rm cx.2.2.2.2.2) s m args below meth c H locs 0 0 (MQ below (z_Q D cy ad r M2) args s 0 0 (z_A ad)) (F0 m pc ar st0) := by
  intro T hT X
  obtain ⟨v, st₀, t, T', L, h0, X', hL, e1, e2, ⟨⟨hv, hPt⟩, hz, hk⟩, go⟩ := hr T hT X
  have hv : v = ro.map (z_mv ad) := by cases hv; rfl
  subst hv
  rw [h0] at hz hk
  have hS := w.2.2
  have K := kk l D cy ad p e s m args below meth c T'.heap (locs ++ L) ar F ⟨by rw [e1]; exact hPt.1, hPt.2.2.1, Nat.le_trans hS.1 (by rw [e1]; exact hz), fun q h1 h2 => by rw [e1, hk q (Nat.lt_of_lt_of_le h1 hS.1) h2]; exact hS.2.1 q h1 h2, fun q hq => by
      rcases List.mem_append.mp hq with h9 | h9
      · exact hS.2.2 q h9
      · exact hL q h9⟩ h
  obtain ⟨t2, a1, b1⟩ := K T' rfl X'
  refine ⟨t2, go t2 ?_, b1⟩
  have e9 : (ro.map (z_mv ad)).toList ++ st.map (z_mv ad) = (ro.toList ++ st).map (z_mv ad) := by cases ro <;> simp
  rw [show ({ F0 m pc ar st0 with pc := (F0 m pc ar st0).pc + 3, stack := (ro.map (z_mv ad)).toList ++ st.map (z_mv ad) } : JFrame) = F0 m (pc + 3) ar ((ro.toList ++ st).map (z_mv ad)) by rw [e9]]
  exact a1
theorem z_gT {w : Cond} (h : w ∈ z_tb) : (w.onTables && w.keeps) = true ∨ ∃ ty, w = .arrayClass ty := good_of_word (List.mem_filter.mp h).2
/-- what a call by invokevirtual needs of the words and the room -/
def z_CV (own : String) (lv : Nat) (idx : Nat) (cx2 : z_MC) (C : String) (n : Nat) : Prop := (Cond.methodLink own idx cx2.2.2.2.2.1 ∈ z_tb ∧ Cond.instanceMethod cx2.2.2.2.2.1 ∈ z_tb ∧ Cond.selects C cx2.2.2.2.2.1 cx2.2.2.2.2.1 ∈ z_tb ∧ Cond.initialized C ∈ z_tb ∧ Cond.code cx2.2.2.2.2.1 cx2.1 cx2.2.2.1 cx2.2.2.2.1 ∈ z_tb) ∧ (cx2.2.2.2.2.1.cls = C ∧ cx2.2.2.2.2.1.cls ≠ "java/lang/invoke/MethodHandle" ∧ cx2.2.2.2.2.1.cls ≠ "java/lang/invoke/VarHandle" ∧ (parseMethodDescriptor cx2.2.2.2.2.1.desc).map (fun d => d.parameters.length) = some n) ∧ (cx2.2.2.2.2.2 + 1 ≤ lv ∧ 8 + (cx2.2.2.1 + 11) + 36 * cx2.2.2.2.2.2 ≤ 36 * lv)
def z_CS (own : String) (lv : Nat) (idx : Nat) (cx2 : z_MC) (n : Nat) : Prop := (Cond.methodLink own idx cx2.2.2.2.2.1 ∈ z_tb ∧ Cond.static cx2.2.2.2.2.1 ∈ z_tb ∧ Cond.initialized cx2.2.2.2.2.1.cls ∈ z_tb ∧ Cond.code cx2.2.2.2.2.1 cx2.1 cx2.2.2.1 cx2.2.2.2.1 ∈ z_tb) ∧ (cx2.2.2.2.2.1.cls ≠ "java/lang/invoke/MethodHandle" ∧ cx2.2.2.2.2.1.cls ≠ "java/lang/invoke/VarHandle" ∧ (parseMethodDescriptor cx2.2.2.2.2.1.desc).map (fun d => d.parameters.length) = some n) ∧ (cx2.2.2.2.2.2 + 1 ≤ lv ∧ 8 + (cx2.2.2.1 + 11) + 36 * cx2.2.2.2.2.2 ≤ 36 * lv)
theorem z_wsIn {big : List Cond} {cx2 : z_MC} (hb : ∀ w ∈ z_tb, w ∈ big) (h : Cond.code cx2.2.2.2.2.1 cx2.1 cx2.2.2.1 cx2.2.2.2.1 ∈ z_tb) : GoodIn big (z_ws cx2) := by
  intro w hw
  rcases List.mem_cons.mp hw with rfl | hw
  · exact ⟨hb _ h, z_gT h⟩
  · exact ⟨hb _ hw, z_gT hw⟩
theorem z_gV {big : List Cond} {own : String} {idx : Nat} {cx2 : z_MC} {C : String} (hb : ∀ w ∈ z_tb, w ∈ big) (g : Cond.methodLink own idx cx2.2.2.2.2.1 ∈ z_tb ∧ Cond.instanceMethod cx2.2.2.2.2.1 ∈ z_tb ∧ Cond.selects C cx2.2.2.2.2.1 cx2.2.2.2.2.1 ∈ z_tb ∧ Cond.initialized C ∈ z_tb ∧ Cond.code cx2.2.2.2.2.1 cx2.1 cx2.2.2.1 cx2.2.2.2.1 ∈ z_tb) : GoodIn big (wsV own idx C cx2.2.2.2.2.1 (z_ws cx2)) := by
  intro w hw
  obtain ⟨g1, g2, g3, g4, g5⟩ := g
  rcases List.mem_append.mp hw with hw | hw
  · simp only [List.mem_cons, List.not_mem_nil, or_false] at hw
    rcases hw with rfl | rfl | rfl | rfl
    · exact ⟨hb _ g1, z_gT g1⟩
    · exact ⟨hb _ g2, z_gT g2⟩
    · exact ⟨hb _ g3, z_gT g3⟩
    · exact ⟨hb _ g4, z_gT g4⟩
  · exact z_wsIn hb g5 w hw
theorem z_gS {big : List Cond} {own : String} {idx : Nat} {cx2 : z_MC} (hb : ∀ w ∈ z_tb, w ∈ big) (g : Cond.methodLink own idx cx2.2.2.2.2.1 ∈ z_tb ∧ Cond.static cx2.2.2.2.2.1 ∈ z_tb ∧ Cond.initialized cx2.2.2.2.2.1.cls ∈ z_tb ∧ Cond.code cx2.2.2.2.2.1 cx2.1 cx2.2.2.1 cx2.2.2.2.1 ∈ z_tb) : GoodIn big (va_wsS own idx cx2.2.2.2.2.1 (z_ws cx2)) := by
  intro w hw
  obtain ⟨g1, g2, g3, g5⟩ := g
  rcases List.mem_append.mp hw with hw | hw
  · simp only [List.mem_cons, List.not_mem_nil, or_false] at hw
    rcases hw with rfl | rfl | rfl
    · exact ⟨hb _ g1, z_gT g1⟩
    · exact ⟨hb _ g2, z_gT g2⟩
    · exact ⟨hb _ g3, z_gT g3⟩
  · exact z_wsIn hb g5 w hw
theorem z_callV {cx cx2 : z_MC} {r ro : Option Value} {M M1 M2 : z_Mem} {pc idx n b ci N : Nat} {ls : List (Option Value)} {st st0 As : List Value} {C : String} {T : u_T} {fks : List Nat} (hC : z_Ct cx2 (.ref b :: As) M ro M1) (hg : z_CV cx.2.1 cx.2.2.2.2.2 idx cx2 C n) (hs : z_shp[b]? = some (.inr (.inl (ci, fks)))) (hc : vwCl[ci]? = some (C, T, N)) (hn : As.length = n) (hst : st0 = As.reverse ++ .ref b :: st) (hcat : (st.map fun v => v.category).sum ≤ 8) (d : decode cx.1 pc = .ok (.invokevirtual idx, 3)) (kk : z_Sm cx r M2 (pc + 3) ls (ro.toList ++ st) M1) : z_Sm cx r M2 pc ls st0 M := by
  intro l D cy ad p e s m args below meth c H locs ar F w h
  obtain ⟨g1, g3, g4⟩ := hg
  have hget := z_wd_get (cy := cy) (ad := ad) (M := M) hs
  refine z_after kk F w h (a := (Value.ref (ad b) :: As.map (z_mv ad)).toArray) (va_runV (As := As.map (z_mv ad)) (rest := st.map (z_mv ad)) (nL := cx.2.2.1) ⟨F.1, F.2.1, F.2.2.1, F.2.2.2.2.1, F.2.2.2.2.2.1⟩ (hC l D cy ad) (cwV n F.2.2.2.2.2.1 (z_gV (fun _ h9 => List.mem_cons_of_mem _ h9) g1) rfl rfl rfl g3 g4) ⟨z_blind, va_recv (q0 := b) F.2.2.2.2.2.2.2.1 w.1 hc hget, fun U hU hW => ⟨rfl, z_pre_at F w hU hW⟩⟩ rfl (by rw [List.length_map]; exact hn) h.1 ?_ (lv_room (by rw [z_cats]; exact hcat)) d ⟨Nat.le_refl _, Nat.le_refl _⟩)
  subst hst
  show ((As.reverse ++ Value.ref b :: st).map (z_mv ad)) = _
  rw [List.map_append, List.map_cons, List.map_reverse]
  rfl
theorem z_callS {cx cx2 : z_MC} {r ro : Option Value} {M M1 M2 : z_Mem} {pc idx n : Nat} {ls : List (Option Value)} {st st0 As : List Value} (hC : z_Ct cx2 As M ro M1) (hg : z_CS cx.2.1 cx.2.2.2.2.2 idx cx2 n) (hn : As.length = n) (hst : st0 = As.reverse ++ st) (hcat : (st.map fun v => v.category).sum ≤ 8) (d : decode cx.1 pc = .ok (.invokestatic idx, 3)) (kk : z_Sm cx r M2 (pc + 3) ls (ro.toList ++ st) M1) : z_Sm cx r M2 pc ls st0 M := by
  intro l D cy ad p e s m args below meth c H locs ar F w h
  obtain ⟨g1, g3, g4⟩ := hg
  refine z_after kk F w h (a := (As.map (z_mv ad)).toArray) (va_runS (As := As.map (z_mv ad)) (rest := st.map (z_mv ad)) (nL := cx.2.2.1) ⟨F.1, F.2.1, F.2.2.1, F.2.2.2.2.1, F.2.2.2.2.2.1⟩ (hC l D cy ad) (va_cwS n F.2.2.2.2.2.1 (z_gS (fun _ h9 => List.mem_cons_of_mem _ h9) g1) rfl rfl rfl g3 g4) ⟨z_blind, fun U hU hW => ⟨rfl, z_pre_at F w hU hW⟩⟩ rfl (by rw [List.length_map]; exact hn) h.1 ?_ (lv_room (by rw [z_cats]; exact hcat)) d ⟨Nat.le_refl _, Nat.le_refl _⟩)
  subst hst
  show ((As.reverse ++ st).map (z_mv ad)) = _
  rw [List.map_append, List.map_reverse]
-- ends
theorem z_iret {cx : z_MC} {M M2 : z_Mem} {pc : Nat} {ls : List (Option Value)} {v w : Int32} (hr : cx.2.2.2.1 = some .int) (d : decode cx.1 pc = .ok (.ireturn, 1)) (hv : v = w) (hM : M = M2) : z_Sm cx (some (.int w)) M2 pc ls [.int v] M := by
  subst hv; subst hM
  intro l D cy ad p e s m args below meth c H locs ar F w h
  exact W.iret F.1 F.2.1 (F.2.2.2.1.trans hr) (fun t ht hW => ⟨⟨rfl, z_pre_at F w ht hW⟩, w.2.2.F ht⟩) w.2.2.2.2 d F.2.2.2.2.2.2.1
theorem z_zret {cx : z_MC} {M M2 : z_Mem} {pc : Nat} {ls : List (Option Value)} {v w : Int32} (hr : cx.2.2.2.1 = some .boolean) (d : decode cx.1 pc = .ok (.ireturn, 1)) (hn : narrow .boolean (.int v) = .int v) (hv : v = w) (hM : M = M2) : z_Sm cx (some (.int w)) M2 pc ls [.int v] M := by
  subst hv; subst hM
  intro l D cy ad p e s m args below meth c H locs ar F w h
  exact W.zret F.1 F.2.1 (F.2.2.2.1.trans hr) hn (fun t ht hW => ⟨⟨rfl, z_pre_at F w ht hW⟩, w.2.2.F ht⟩) w.2.2.2.2 d F.2.2.2.2.2.2.1
theorem z_lret {cx : z_MC} {M M2 : z_Mem} {pc : Nat} {ls : List (Option Value)} {v w : Int64} (hr : cx.2.2.2.1 = some .long) (d : decode cx.1 pc = .ok (.lreturn, 1)) (hv : v = w) (hM : M = M2) : z_Sm cx (some (.long w)) M2 pc ls [.long v] M := by
  subst hv; subst hM
  intro l D cy ad p e s m args below meth c H locs ar F w h
  exact W.lret F.1 F.2.1 (F.2.2.2.1.trans hr) (fun t ht hW => ⟨⟨rfl, z_pre_at F w ht hW⟩, w.2.2.F ht⟩) w.2.2.2.2 d F.2.2.2.2.2.2.1
theorem z_vret {cx : z_MC} {M M2 : z_Mem} {pc : Nat} {ls : List (Option Value)} (hr : cx.2.2.2.1 = none) (d : decode cx.1 pc = .ok (.return_, 1)) (hM : M = M2) : z_Sm cx none M2 pc ls [] M := by
  subst hM
  intro l D cy ad p e s m args below meth c H locs ar F w h
  exact W.vret F.1 F.2.1 (F.2.2.2.1.trans hr) (fun t ht hW => ⟨⟨rfl, z_pre_at F w ht hW⟩, w.2.2.F ht⟩) w.2.2.2.2 d F.2.2.2.2.2.2.1
end
section
def mX0_forget : z_MC := (cX0_forget, RX0, 1, none, yX0_forget, 0)
def mX0_remember : z_MC := (cX0_remember, RX0, 2, none, yX0_remember, 1)
def mX0_takeBack : z_MC := (cX0_takeBack, RX0, 2, none, yX0_takeBack, 1)
def mX1_clear : z_MC := (cX1_clear, RX1, 2, none, yX1_clear, 0)
def mX1_burden : z_MC := (cX1_burden, RX1, 3, none, yX1_burden, 0)
def mX1_burdenEnds : z_MC := (cX1_burdenEnds, RX1, 2, none, yX1_burdenEnds, 0)
def mX1_loadOf : z_MC := (cX1_loadOf, RX1, 2, (some .int), yX1_loadOf, 0)
def mX1_ping : z_MC := (cX1_ping, RX1, 6, (some .int), yX1_ping, 3)
def mX1_givingNow : z_MC := (cX1_givingNow, RX1, 4, (some .int), yX1_givingNow, 2)
def mX1_pullAt : z_MC := (cX1_pullAt, RX1, 4, (some .int), yX1_pullAt, 4)
def mX1_passDay : z_MC := (cX1_passDay, RX1, 3, (some .int), yX1_passDay, 4)
def mX1_springShut : z_MC := (cX1_springShut, RX1, 3, none, yX1_springShut, 0)
def mX1_wearDown : z_MC := (cX1_wearDown, RX1, 3, none, yX1_wearDown, 1)
def mX2_begin : z_MC := (cX2_begin, RX2, 2, none, yX2_begin, 0)
def mX2_become : z_MC := (cX2_become, RX2, 3, none, yX2_become, 0)
def mX2_isOpen : z_MC := (cX2_isOpen, RX2, 2, (some .boolean), yX2_isOpen, 0)
def mX2_close : z_MC := (cX2_close, RX2, 2, none, yX2_close, 0)
def mX2_unpin : z_MC := (cX2_unpin, RX2, 2, none, yX2_unpin, 0)
def mX2_wearOfAll : z_MC := (cX2_wearOfAll, RX2, 3, (some .int), yX2_wearOfAll, 0)
def mX3_add : z_MC := (cX3_add, RX3, 2, none, yX3_add, 0)
def mX3_figure : z_MC := (cX3_figure, RX3, 3, (some .int), yX3_figure, 0)
def mX3_sizeOfPart : z_MC := (cX3_sizeOfPart, RX3, 1, (some .int), yX3_sizeOfPart, 0)
def mX3_mostOf : z_MC := (cX3_mostOf, RX3, 1, (some .int), yX3_mostOf, 0)
def mX3_firstFault : z_MC := (cX3_firstFault, RX3, 3, (some .int), yX3_firstFault, 2)
def mX3_canBegin : z_MC := (cX3_canBegin, RX3, 5, (some .boolean), yX3_canBegin, 1)
def mX3_canGoOn : z_MC := (cX3_canGoOn, RX3, 5, (some .boolean), yX3_canGoOn, 1)
def mX4_readFrom : z_MC := (cX4_readFrom, RX4, 4, none, yX4_readFrom, 2)
def mX4_addPin : z_MC := (cX4_addPin, RX4, 3, none, yX4_addPin, 1)
def mX4_allPins : z_MC := (cX4_allPins, RX4, 1, (some .int), yX4_allPins, 0)
def mX4_holds : z_MC := (cX4_holds, RX4, 3, (some .int), yX4_holds, 1)
def mX4_endsOf : z_MC := (cX4_endsOf, RX4, 2, (some .int), yX4_endsOf, 0)
def mX4_reach : z_MC := (cX4_reach, RX4, 6, (some .int), yX4_reach, 1)
def mX4_areTogether : z_MC := (cX4_areTogether, RX4, 4, (some .boolean), yX4_areTogether, 2)
def mX4_pairsTogether : z_MC := (cX4_pairsTogether, RX4, 4, (some .int), yX4_pairsTogether, 2)
def mX4_doable : z_MC := (cX4_doable, RX4, 4, (some .int), yX4_doable, 3)
def mX5_add : z_MC := (cX5_add, RX5, 3, none, yX5_add, 0)
def mX5_agreeWith : z_MC := (cX5_agreeWith, RX5, 5, (some .boolean), yX5_agreeWith, 0)
def mX6_write : z_MC := (cX6_write, RX6, 2, (some .int), yX6_write, 1)
def mX6_wipe : z_MC := (cX6_wipe, RX6, 2, (some .int), yX6_wipe, 0)
def mX6_fault : z_MC := (cX6_fault, RX6, 1, (some .int), yX6_fault, 3)
def mX6_town : z_MC := (cX6_town, RX6, 2, (some .int), yX6_town, 3)
def mX6_pin : z_MC := (cX6_pin, RX6, 3, (some .int), yX6_pin, 2)
def mX6_with : z_MC := (cX6_with, RX6, 2, (some .int), yX6_with, 2)
def mX6_day : z_MC := (cX6_day, RX6, 1, (some .int), yX6_day, 5)
def mX6_tug : z_MC := (cX6_tug, RX6, 3, (some .int), yX6_tug, 5)
def mX6_shut : z_MC := (cX6_shut, RX6, 2, (some .int), yX6_shut, 2)
def mX6_open : z_MC := (cX6_open, RX6, 2, (some .int), yX6_open, 2)
def mX6_undo : z_MC := (cX6_undo, RX6, 1, (some .int), yX6_undo, 2)
def mX6_later : z_MC := (cX6_later, RX6, 3, (some .int), yX6_later, 5)
def mX6_lasts : z_MC := (cX6_lasts, RX6, 3, (some .int), yX6_lasts, 5)
def mX6_chain : z_MC := (cX6_chain, RX6, 2, (some .int), yX6_chain, 4)
def mX6_cuts : z_MC := (cX6_cuts, RX6, 6, (some .int), yX6_cuts, 3)
def mX6_parts : z_MC := (cX6_parts, RX6, 7, (some .int), yX6_parts, 6)
def mX6_letsGo : z_MC := (cX6_letsGo, RX6, 4, (some .int), yX6_letsGo, 4)
def mX6_judge : z_MC := (cX6_judge, RX6, 6, (some .int), yX6_judge, 6)
def mX6_trial : z_MC := (cX6_trial, RX6, 3, (some .int), yX6_trial, 1)
def mX6_untry : z_MC := (cX6_untry, RX6, 2, (some .int), yX6_untry, 0)
def mX6_which : z_MC := (cX6_which, RX6, 5, (some .int), yX6_which, 1)
def mX6_share : z_MC := (cX6_share, RX6, 5, (some .int), yX6_share, 4)
def mX6_rests : z_MC := (cX6_rests, RX6, 9, (some .int), yX6_rests, 5)
def mX6_gives : z_MC := (cX6_gives, RX6, 13, (some .int), yX6_gives, 3)
def mX6_seed : z_MC := (cX6_seed, RX6, 5, (some .long), yX6_seed, 0)
def mX6_seasons : z_MC := (cX6_seasons, RX6, 4, (some .int), yX6_seasons, 6)
def mX6_keep : z_MC := (cX6_keep, RX6, 2, (some .int), yX6_keep, 1)
def mX6_again : z_MC := (cX6_again, RX6, 2, (some .int), yX6_again, 1)
def mX6_count : z_MC := (cX6_count, RX6, 2, (some .int), yX6_count, 4)
def mX6_isThing : z_MC := (cX6_isThing, RX6, 1, (some .boolean), yX6_isThing, 0)
def mX6_isPin : z_MC := (cX6_isPin, RX6, 2, (some .boolean), yX6_isPin, 0)
def mX6_refusalOfTwo : z_MC := (cX6_refusalOfTwo, RX6, 2, (some .int), yX6_refusalOfTwo, 1)
def mX6_isBetterCut : z_MC := (cX6_isBetterCut, RX6, 4, (some .boolean), yX6_isBetterCut, 1)
def mX6_firstThatParts : z_MC := (cX6_firstThatParts, RX6, 5, (some .int), yX6_firstThatParts, 5)
def mX6_comesTrue : z_MC := (cX6_comesTrue, RX6, 4, (some .boolean), yX6_comesTrue, 5)
def mX6_closesInThought : z_MC := (cX6_closesInThought, RX6, 2, (some .boolean), yX6_closesInThought, 1)
def mX6_unpinsInThought : z_MC := (cX6_unpinsInThought, RX6, 2, (some .boolean), yX6_unpinsInThought, 1)
def mX6_passSeason : z_MC := (cX6_passSeason, RX6, 2, none, yX6_passSeason, 5)
def mX6_pairsBroughtInAllOrders : z_MC := (cX6_pairsBroughtInAllOrders, RX6, 11, (some .long), yX6_pairsBroughtInAllOrders, 3)
def mX6_reckonGains : z_MC := (cX6_reckonGains, RX6, 6, none, yX6_reckonGains, 4)
def mX6_priceOfBeingAlone : z_MC := (cX6_priceOfBeingAlone, RX6, 2, (some .int), yX6_priceOfBeingAlone, 2)
def mX6_isAtRest : z_MC := (cX6_isAtRest, RX6, 5, (some .boolean), yX6_isAtRest, 0)
def mX6_power : z_MC := (cX6_power, RX6, 5, (some .long), yX6_power, 0)
def mX6_inLeastTerms : z_MC := (cX6_inLeastTerms, RX6, 7, (some .int), yX6_inLeastTerms, 2)
def mX6_commonDivisor : z_MC := (cX6_commonDivisor, RX6, 11, (some .long), yX6_commonDivisor, 1)
def mX7_in : z_MC := (cX7_in, RX7, 6, (some .boolean), yX7_in, 0)
def mX7_has : z_MC := (cX7_has, RX7, 2, (some .boolean), yX7_has, 0)
def mX7_ones : z_MC := (cX7_ones, RX7, 3, (some .int), yX7_ones, 0)
def mX7_write : z_MC := (cX7_write, RX7, 2, (some .int), yX7_write, 1)
def mX7_wipe : z_MC := (cX7_wipe, RX7, 2, (some .int), yX7_wipe, 0)
def mX7_figureOf : z_MC := (cX7_figureOf, RX7, 5, (some .int), yX7_figureOf, 1)
def mX7_readText : z_MC := (cX7_readText, RX7, 1, (some .int), yX7_readText, 3)
def mX7_readPart : z_MC := (cX7_readPart, RX7, 3, none, yX7_readPart, 2)
def mX7_fault : z_MC := (cX7_fault, RX7, 1, (some .int), yX7_fault, 4)
def mX7_town : z_MC := (cX7_town, RX7, 2, (some .int), yX7_town, 4)
def mX7_isPin : z_MC := (cX7_isPin, RX7, 2, (some .boolean), yX7_isPin, 1)
def mX7_isThing : z_MC := (cX7_isThing, RX7, 1, (some .boolean), yX7_isThing, 1)
def mX7_all : z_MC := (cX7_all, RX7, 1, (some .int), yX7_all, 0)
def mX7_withBy : z_MC := (cX7_withBy, RX7, 7, (some .int), yX7_withBy, 1)
def mX7_isTogether : z_MC := (cX7_isTogether, RX7, 4, (some .boolean), yX7_isTogether, 2)
def mX7_pairsBy : z_MC := (cX7_pairsBy, RX7, 5, (some .int), yX7_pairsBy, 3)
def mX7_doableBy : z_MC := (cX7_doableBy, RX7, 4, (some .int), yX7_doableBy, 3)
def mX7_unload : z_MC := (cX7_unload, RX7, 2, none, yX7_unload, 0)
def mX7_holdsOn : z_MC := (cX7_holdsOn, RX7, 4, (some .int), yX7_holdsOn, 0)
def mX7_onBoth : z_MC := (cX7_onBoth, RX7, 2, (some .int), yX7_onBoth, 0)
def mX7_ping : z_MC := (cX7_ping, RX7, 5, (some .int), yX7_ping, 1)
def mX7_tugOn : z_MC := (cX7_tugOn, RX7, 4, (some .int), yX7_tugOn, 2)
def mX7_passOn : z_MC := (cX7_passOn, RX7, 5, (some .int), yX7_passOn, 2)
def mX7_shutOn : z_MC := (cX7_shutOn, RX7, 3, none, yX7_shutOn, 0)
def mX7_pin : z_MC := (cX7_pin, RX7, 3, (some .int), yX7_pin, 2)
def mX7_with : z_MC := (cX7_with, RX7, 2, (some .int), yX7_with, 2)
def mX7_keepAct : z_MC := (cX7_keepAct, RX7, 2, none, yX7_keepAct, 0)
def mX7_day : z_MC := (cX7_day, RX7, 1, (some .int), yX7_day, 3)
def mX7_tug : z_MC := (cX7_tug, RX7, 3, (some .int), yX7_tug, 3)
def mX7_shut : z_MC := (cX7_shut, RX7, 2, (some .int), yX7_shut, 2)
def mX7_open : z_MC := (cX7_open, RX7, 2, (some .int), yX7_open, 2)
def mX7_undo : z_MC := (cX7_undo, RX7, 2, (some .int), yX7_undo, 0)
def mX7_layTrial : z_MC := (cX7_layTrial, RX7, 2, none, yX7_layTrial, 0)
def mX7_later : z_MC := (cX7_later, RX7, 3, (some .int), yX7_later, 3)
def mX7_lasts : z_MC := (cX7_lasts, RX7, 3, (some .int), yX7_lasts, 3)
def mX7_chain : z_MC := (cX7_chain, RX7, 2, (some .int), yX7_chain, 2)
def mX7_cuts : z_MC := (cX7_cuts, RX7, 6, (some .int), yX7_cuts, 3)
def mX7_parts : z_MC := (cX7_parts, RX7, 6, (some .int), yX7_parts, 3)
def mX7_letsGo : z_MC := (cX7_letsGo, RX7, 5, (some .int), yX7_letsGo, 4)
def mX7_tryThing : z_MC := (cX7_tryThing, RX7, 7, (some .boolean), yX7_tryThing, 4)
def mX7_thousandTo : z_MC := (cX7_thousandTo, RX7, 4, (some .long), yX7_thousandTo, 0)
def mX7_judge : z_MC := (cX7_judge, RX7, 6, (some .int), yX7_judge, 5)
def mX7_trial : z_MC := (cX7_trial, RX7, 3, (some .int), yX7_trial, 1)
def mX7_untry : z_MC := (cX7_untry, RX7, 2, (some .int), yX7_untry, 0)
def mX7_which : z_MC := (cX7_which, RX7, 8, (some .int), yX7_which, 1)
def mX7_factorial : z_MC := (cX7_factorial, RX7, 3, (some .int), yX7_factorial, 0)
def mX7_common : z_MC := (cX7_common, RX7, 5, (some .int), yX7_common, 0)
def mX7_share : z_MC := (cX7_share, RX7, 7, (some .int), yX7_share, 4)
def mX7_gain : z_MC := (cX7_gain, RX7, 6, (some .int), yX7_gain, 2)
def mX7_isRest : z_MC := (cX7_isRest, RX7, 7, (some .boolean), yX7_isRest, 3)
def mX7_rests : z_MC := (cX7_rests, RX7, 7, (some .int), yX7_rests, 4)
def mX7_power : z_MC := (cX7_power, RX7, 4, (some .int), yX7_power, 0)
def mX7_gives : z_MC := (cX7_gives, RX7, 10, (some .int), yX7_gives, 3)
def mX7_seed : z_MC := (cX7_seed, RX7, 5, (some .long), yX7_seed, 0)
def mX7_seasons : z_MC := (cX7_seasons, RX7, 5, (some .int), yX7_seasons, 5)
def mX7_keep : z_MC := (cX7_keep, RX7, 3, (some .int), yX7_keep, 1)
def mX7_again : z_MC := (cX7_again, RX7, 3, (some .int), yX7_again, 1)
def mX7_wearOfAll : z_MC := (cX7_wearOfAll, RX7, 3, (some .int), yX7_wearOfAll, 0)
def mX7_count : z_MC := (cX7_count, RX7, 2, (some .int), yX7_count, 4)
def mJ6_bitCount_0f7a4 : z_MC := (cJ6_bitCount_0f7a4, RJ6, 1, (some .int), yJ6_bitCount_0f7a4, 0)
def mJ9_floorMod_7cf53 : z_MC := (cJ9_floorMod_7cf53, RJ9, 3, (some .int), yJ9_floorMod_7cf53, 0)
def mJ9_max_7cf53 : z_MC := (cJ9_max_7cf53, RJ9, 2, (some .int), yJ9_max_7cf53, 0)
def mJ9_max_f86c9 : z_MC := (cJ9_max_f86c9, RJ9, 4, (some .long), yJ9_max_f86c9, 0)
def mJ9_min_7cf53 : z_MC := (cJ9_min_7cf53, RJ9, 2, (some .int), yJ9_min_7cf53, 0)
theorem q_fX6_10 : z_FL RX6 10 6 0 := ⟨RX6, TX6, 12, rfl, by decide, z_in 163 (by decide +kernel)⟩
theorem q_fX6_19 : z_FL RX6 19 6 1 := ⟨RX6, TX6, 12, rfl, by decide, z_in 164 (by decide +kernel)⟩
theorem q_fX6_28 : z_FL RX6 28 6 2 := ⟨RX6, TX6, 12, rfl, by decide, z_in 165 (by decide +kernel)⟩
theorem q_fX6_35 : z_FL RX6 35 6 3 := ⟨RX6, TX6, 12, rfl, by decide, z_in 166 (by decide +kernel)⟩
theorem q_fX6_39 : z_FL RX6 39 6 4 := ⟨RX6, TX6, 12, rfl, by decide, z_in 167 (by decide +kernel)⟩
theorem q_fX6_45 : z_FL RX6 45 6 5 := ⟨RX6, TX6, 12, rfl, by decide, z_in 168 (by decide +kernel)⟩
theorem q_fX6_49 : z_FL RX6 49 6 6 := ⟨RX6, TX6, 12, rfl, by decide, z_in 169 (by decide +kernel)⟩
theorem q_fX6_53 : z_FL RX6 53 6 7 := ⟨RX6, TX6, 12, rfl, by decide, z_in 170 (by decide +kernel)⟩
theorem q_fX6_60 : z_FL RX6 60 6 8 := ⟨RX6, TX6, 12, rfl, by decide, z_in 171 (by decide +kernel)⟩
theorem q_fX6_64 : z_FL RX6 64 6 9 := ⟨RX6, TX6, 12, rfl, by decide, z_in 172 (by decide +kernel)⟩
theorem q_fX6_68 : z_FL RX6 68 6 10 := ⟨RX6, TX6, 12, rfl, by decide, z_in 173 (by decide +kernel)⟩
theorem q_fX6_71 : z_FL RX6 71 6 11 := ⟨RX6, TX6, 12, rfl, by decide, z_in 174 (by decide +kernel)⟩
theorem q_fX6_75 : z_FL RX6 75 3 1 := ⟨RX3, TX3, 2, rfl, by decide, z_in 28 (by decide +kernel)⟩
theorem q_fX6_97 : z_FL RX6 97 4 0 := ⟨RX4, TX4, 11, rfl, by decide, z_in 43 (by decide +kernel)⟩
theorem q_fX6_100 : z_FL RX6 100 4 5 := ⟨RX4, TX4, 11, rfl, by decide, z_in 57 (by decide +kernel)⟩
theorem q_fX6_103 : z_FL RX6 103 4 8 := ⟨RX4, TX4, 11, rfl, by decide, z_in 64 (by decide +kernel)⟩
theorem q_fX6_110 : z_FL RX6 110 4 1 := ⟨RX4, TX4, 11, rfl, by decide, z_in 47 (by decide +kernel)⟩
theorem q_fX6_113 : z_FL RX6 113 4 2 := ⟨RX4, TX4, 11, rfl, by decide, z_in 50 (by decide +kernel)⟩
theorem q_fX6_116 : z_FL RX6 116 4 3 := ⟨RX4, TX4, 11, rfl, by decide, z_in 52 (by decide +kernel)⟩
theorem q_fX6_119 : z_FL RX6 119 4 4 := ⟨RX4, TX4, 11, rfl, by decide, z_in 54 (by decide +kernel)⟩
theorem q_fX6_122 : z_FL RX6 122 2 1 := ⟨RX2, TX2, 3, rfl, by decide, z_in 113 (by decide +kernel)⟩
theorem q_fX6_135 : z_FL RX6 135 2 0 := ⟨RX2, TX2, 3, rfl, by decide, z_in 111 (by decide +kernel)⟩
theorem q_fX6_165 : z_FL RX6 165 0 2 := ⟨RX0, TX0, 3, rfl, by decide, z_in 137 (by decide +kernel)⟩
theorem q_fX6_211 : z_FL RX6 211 5 2 := ⟨RX5, TX5, 3, rfl, by decide, z_in 154 (by decide +kernel)⟩
theorem q_fX6_247 : z_FL RX6 247 2 2 := ⟨RX2, TX2, 3, rfl, by decide, z_in 117 (by decide +kernel)⟩
theorem q_fX0_11 : z_FL RX0 11 0 0 := ⟨RX0, TX0, 3, rfl, by decide, z_in 134 (by decide +kernel)⟩
theorem q_fX0_17 : z_FL RX0 17 0 1 := ⟨RX0, TX0, 3, rfl, by decide, z_in 135 (by decide +kernel)⟩
theorem q_fX0_21 : z_FL RX0 21 0 2 := ⟨RX0, TX0, 3, rfl, by decide, z_in 136 (by decide +kernel)⟩
theorem q_fX1_9 : z_FL RX1 9 1 1 := ⟨RX1, TX1, 2, rfl, by decide, z_in 97 (by decide +kernel)⟩
theorem q_fX1_15 : z_FL RX1 15 1 0 := ⟨RX1, TX1, 2, rfl, by decide, z_in 96 (by decide +kernel)⟩
theorem q_fX1_19 : z_FL RX1 19 4 1 := ⟨RX4, TX4, 11, rfl, by decide, z_in 46 (by decide +kernel)⟩
theorem q_fX1_24 : z_FL RX1 24 4 2 := ⟨RX4, TX4, 11, rfl, by decide, z_in 49 (by decide +kernel)⟩
theorem q_fX1_27 : z_FL RX1 27 2 0 := ⟨RX2, TX2, 3, rfl, by decide, z_in 110 (by decide +kernel)⟩
theorem q_fX1_39 : z_FL RX1 39 4 0 := ⟨RX4, TX4, 11, rfl, by decide, z_in 44 (by decide +kernel)⟩
theorem q_fX1_57 : z_FL RX1 57 2 1 := ⟨RX2, TX2, 3, rfl, by decide, z_in 114 (by decide +kernel)⟩
theorem q_fX1_78 : z_FL RX1 78 4 5 := ⟨RX4, TX4, 11, rfl, by decide, z_in 58 (by decide +kernel)⟩
theorem q_fX1_81 : z_FL RX1 81 2 2 := ⟨RX2, TX2, 3, rfl, by decide, z_in 116 (by decide +kernel)⟩
theorem q_fX1_89 : z_FL RX1 89 4 6 := ⟨RX4, TX4, 11, rfl, by decide, z_in 60 (by decide +kernel)⟩
theorem q_fX1_92 : z_FL RX1 92 4 7 := ⟨RX4, TX4, 11, rfl, by decide, z_in 62 (by decide +kernel)⟩
theorem q_fX1_98 : z_FL RX1 98 4 4 := ⟨RX4, TX4, 11, rfl, by decide, z_in 55 (by decide +kernel)⟩
theorem q_fX2_9 : z_FL RX2 9 2 0 := ⟨RX2, TX2, 3, rfl, by decide, z_in 109 (by decide +kernel)⟩
theorem q_fX2_15 : z_FL RX2 15 2 1 := ⟨RX2, TX2, 3, rfl, by decide, z_in 112 (by decide +kernel)⟩
theorem q_fX2_19 : z_FL RX2 19 2 2 := ⟨RX2, TX2, 3, rfl, by decide, z_in 115 (by decide +kernel)⟩
theorem q_fX3_9 : z_FL RX3 9 3 0 := ⟨RX3, TX3, 2, rfl, by decide, z_in 25 (by decide +kernel)⟩
theorem q_fX3_15 : z_FL RX3 15 3 1 := ⟨RX3, TX3, 2, rfl, by decide, z_in 27 (by decide +kernel)⟩
theorem q_fX4_9 : z_FL RX4 9 4 0 := ⟨RX4, TX4, 11, rfl, by decide, z_in 42 (by decide +kernel)⟩
theorem q_fX4_15 : z_FL RX4 15 4 1 := ⟨RX4, TX4, 11, rfl, by decide, z_in 45 (by decide +kernel)⟩
theorem q_fX4_19 : z_FL RX4 19 4 2 := ⟨RX4, TX4, 11, rfl, by decide, z_in 48 (by decide +kernel)⟩
theorem q_fX4_22 : z_FL RX4 22 4 3 := ⟨RX4, TX4, 11, rfl, by decide, z_in 51 (by decide +kernel)⟩
theorem q_fX4_25 : z_FL RX4 25 4 4 := ⟨RX4, TX4, 11, rfl, by decide, z_in 53 (by decide +kernel)⟩
theorem q_fX4_28 : z_FL RX4 28 4 5 := ⟨RX4, TX4, 11, rfl, by decide, z_in 56 (by decide +kernel)⟩
theorem q_fX4_31 : z_FL RX4 31 4 6 := ⟨RX4, TX4, 11, rfl, by decide, z_in 59 (by decide +kernel)⟩
theorem q_fX4_34 : z_FL RX4 34 4 7 := ⟨RX4, TX4, 11, rfl, by decide, z_in 61 (by decide +kernel)⟩
theorem q_fX4_37 : z_FL RX4 37 4 8 := ⟨RX4, TX4, 11, rfl, by decide, z_in 63 (by decide +kernel)⟩
theorem q_fX4_40 : z_FL RX4 40 4 9 := ⟨RX4, TX4, 11, rfl, by decide, z_in 65 (by decide +kernel)⟩
theorem q_fX4_43 : z_FL RX4 43 4 10 := ⟨RX4, TX4, 11, rfl, by decide, z_in 66 (by decide +kernel)⟩
theorem q_fX4_46 : z_FL RX4 46 3 1 := ⟨RX3, TX3, 2, rfl, by decide, z_in 29 (by decide +kernel)⟩
theorem q_fX4_51 : z_FL RX4 51 3 0 := ⟨RX3, TX3, 2, rfl, by decide, z_in 26 (by decide +kernel)⟩
theorem q_fX5_9 : z_FL RX5 9 5 0 := ⟨RX5, TX5, 3, rfl, by decide, z_in 151 (by decide +kernel)⟩
theorem q_fX5_15 : z_FL RX5 15 5 1 := ⟨RX5, TX5, 3, rfl, by decide, z_in 152 (by decide +kernel)⟩
theorem q_fX5_19 : z_FL RX5 19 5 2 := ⟨RX5, TX5, 3, rfl, by decide, z_in 153 (by decide +kernel)⟩
theorem q_fX7_7 : z_FL RX7 7 7 3 := ⟨RX7, TX7, 32, rfl, by decide, z_in 567 (by decide +kernel)⟩
theorem q_fX7_13 : z_FL RX7 13 7 4 := ⟨RX7, TX7, 32, rfl, by decide, z_in 568 (by decide +kernel)⟩
theorem q_fX7_16 : z_FL RX7 16 7 5 := ⟨RX7, TX7, 32, rfl, by decide, z_in 569 (by decide +kernel)⟩
theorem q_fX7_19 : z_FL RX7 19 7 6 := ⟨RX7, TX7, 32, rfl, by decide, z_in 570 (by decide +kernel)⟩
theorem q_fX7_22 : z_FL RX7 22 7 7 := ⟨RX7, TX7, 32, rfl, by decide, z_in 571 (by decide +kernel)⟩
theorem q_fX7_25 : z_FL RX7 25 7 8 := ⟨RX7, TX7, 32, rfl, by decide, z_in 572 (by decide +kernel)⟩
theorem q_fX7_28 : z_FL RX7 28 7 9 := ⟨RX7, TX7, 32, rfl, by decide, z_in 573 (by decide +kernel)⟩
theorem q_fX7_31 : z_FL RX7 31 7 10 := ⟨RX7, TX7, 32, rfl, by decide, z_in 574 (by decide +kernel)⟩
theorem q_fX7_34 : z_FL RX7 34 7 11 := ⟨RX7, TX7, 32, rfl, by decide, z_in 575 (by decide +kernel)⟩
theorem q_fX7_37 : z_FL RX7 37 7 12 := ⟨RX7, TX7, 32, rfl, by decide, z_in 576 (by decide +kernel)⟩
theorem q_fX7_40 : z_FL RX7 40 7 13 := ⟨RX7, TX7, 32, rfl, by decide, z_in 577 (by decide +kernel)⟩
theorem q_fX7_43 : z_FL RX7 43 7 14 := ⟨RX7, TX7, 32, rfl, by decide, z_in 578 (by decide +kernel)⟩
theorem q_fX7_46 : z_FL RX7 46 7 18 := ⟨RX7, TX7, 32, rfl, by decide, z_in 582 (by decide +kernel)⟩
theorem q_fX7_49 : z_FL RX7 49 7 22 := ⟨RX7, TX7, 32, rfl, by decide, z_in 586 (by decide +kernel)⟩
theorem q_fX7_52 : z_FL RX7 52 7 25 := ⟨RX7, TX7, 32, rfl, by decide, z_in 589 (by decide +kernel)⟩
theorem q_fX7_55 : z_FL RX7 55 7 27 := ⟨RX7, TX7, 32, rfl, by decide, z_in 591 (by decide +kernel)⟩
theorem q_fX7_58 : z_FL RX7 58 7 28 := ⟨RX7, TX7, 32, rfl, by decide, z_in 592 (by decide +kernel)⟩
theorem q_fX7_61 : z_FL RX7 61 7 30 := ⟨RX7, TX7, 32, rfl, by decide, z_in 594 (by decide +kernel)⟩
theorem q_fX7_65 : z_FL RX7 65 7 31 := ⟨RX7, TX7, 32, rfl, by decide, z_in 595 (by decide +kernel)⟩
theorem q_fX7_74 : z_FL RX7 74 7 19 := ⟨RX7, TX7, 32, rfl, by decide, z_in 583 (by decide +kernel)⟩
theorem q_fX7_78 : z_FL RX7 78 7 21 := ⟨RX7, TX7, 32, rfl, by decide, z_in 585 (by decide +kernel)⟩
theorem q_fX7_81 : z_FL RX7 81 7 20 := ⟨RX7, TX7, 32, rfl, by decide, z_in 584 (by decide +kernel)⟩
theorem q_fX7_84 : z_FL RX7 84 7 15 := ⟨RX7, TX7, 32, rfl, by decide, z_in 579 (by decide +kernel)⟩
theorem q_fX7_87 : z_FL RX7 87 7 16 := ⟨RX7, TX7, 32, rfl, by decide, z_in 580 (by decide +kernel)⟩
theorem q_fX7_90 : z_FL RX7 90 7 17 := ⟨RX7, TX7, 32, rfl, by decide, z_in 581 (by decide +kernel)⟩
theorem q_fX7_105 : z_FL RX7 105 7 0 := ⟨RX7, TX7, 32, rfl, by decide, z_in 564 (by decide +kernel)⟩
theorem q_fX7_108 : z_FL RX7 108 7 1 := ⟨RX7, TX7, 32, rfl, by decide, z_in 565 (by decide +kernel)⟩
theorem q_fX7_111 : z_FL RX7 111 7 2 := ⟨RX7, TX7, 32, rfl, by decide, z_in 566 (by decide +kernel)⟩
theorem q_fX7_114 : z_FL RX7 114 7 23 := ⟨RX7, TX7, 32, rfl, by decide, z_in 587 (by decide +kernel)⟩
theorem q_fX7_153 : z_FL RX7 153 7 24 := ⟨RX7, TX7, 32, rfl, by decide, z_in 588 (by decide +kernel)⟩
theorem q_fX7_196 : z_FL RX7 196 7 26 := ⟨RX7, TX7, 32, rfl, by decide, z_in 590 (by decide +kernel)⟩
theorem q_fX7_221 : z_FL RX7 221 7 29 := ⟨RX7, TX7, 32, rfl, by decide, z_in 593 (by decide +kernel)⟩
theorem q_p0_1 : z_FP 0 1 "I" = true := by decide +kernel
theorem q_p0_2 : z_FP 0 2 "I" = true := by decide +kernel
theorem q_p2_0 : z_FP 2 0 "I" = true := by decide +kernel
theorem q_p2_2 : z_FP 2 2 "I" = true := by decide +kernel
theorem q_p3_1 : z_FP 3 1 "I" = true := by decide +kernel
theorem q_p4_0 : z_FP 4 0 "I" = true := by decide +kernel
theorem q_p4_5 : z_FP 4 5 "I" = true := by decide +kernel
theorem q_p4_8 : z_FP 4 8 "I" = true := by decide +kernel
theorem q_p5_2 : z_FP 5 2 "I" = true := by decide +kernel
theorem q_p6_11 : z_FP 6 11 "J" = true := by decide +kernel
theorem q_p7_0 : z_FP 7 0 "I" = true := by decide +kernel
theorem q_p7_1 : z_FP 7 1 "I" = true := by decide +kernel
theorem q_p7_2 : z_FP 7 2 "I" = true := by decide +kernel
theorem q_p7_15 : z_FP 7 15 "I" = true := by decide +kernel
theorem q_p7_16 : z_FP 7 16 "I" = true := by decide +kernel
theorem q_p7_17 : z_FP 7 17 "I" = true := by decide +kernel
theorem q_p7_19 : z_FP 7 19 "I" = true := by decide +kernel
theorem q_p7_20 : z_FP 7 20 "I" = true := by decide +kernel
theorem q_p7_21 : z_FP 7 21 "I" = true := by decide +kernel
theorem q_p7_23 : z_FP 7 23 "I" = true := by decide +kernel
theorem q_p7_24 : z_FP 7 24 "I" = true := by decide +kernel
theorem q_p7_26 : z_FP 7 26 "I" = true := by decide +kernel
theorem q_p7_29 : z_FP 7 29 "J" = true := by decide +kernel
theorem q_sX6_202 : Cond.fieldLink RX6 202 "SafetyPins" "THOUSANDS" "[J" ∈ z_tb := z_in 445 (by decide +kernel)
theorem q_sX6_226 : Cond.fieldLink RX6 226 "SafetyPins" "FACTORIALS" "[I" ∈ z_tb := z_in 497 (by decide +kernel)
theorem q_cX6_79 (lv : Nat) (h : 1 ≤ lv) : z_CV RX6 lv 79 mX3_add RX3 1 := ⟨⟨z_in 204 (by decide +kernel), z_in 205 (by decide +kernel), z_in 206 (by decide +kernel), z_in 2 (by decide +kernel), z_in 207 (by decide +kernel)⟩, ⟨rfl, by decide +kernel, by decide +kernel, by decide +kernel⟩, ⟨h, by show 8 + (2 + 11) + 36 * 0 ≤ 36 * lv; omega⟩⟩
theorem q_cX6_83 (lv : Nat) (h : 3 ≤ lv) : z_CV RX6 lv 83 mX3_firstFault RX3 0 := ⟨⟨z_in 216 (by decide +kernel), z_in 217 (by decide +kernel), z_in 218 (by decide +kernel), z_in 2 (by decide +kernel), z_in 219 (by decide +kernel)⟩, ⟨rfl, by decide +kernel, by decide +kernel, by decide +kernel⟩, ⟨h, by show 8 + (3 + 11) + 36 * 2 ≤ 36 * lv; omega⟩⟩
theorem q_cX6_87 (lv : Nat) (h : 3 ≤ lv) : z_CV RX6 lv 87 mX4_readFrom RX4 1 := ⟨⟨z_in 242 (by decide +kernel), z_in 243 (by decide +kernel), z_in 244 (by decide +kernel), z_in 3 (by decide +kernel), z_in 245 (by decide +kernel)⟩, ⟨rfl, by decide +kernel, by decide +kernel, by decide +kernel⟩, ⟨h, by show 8 + (4 + 11) + 36 * 2 ≤ 36 * lv; omega⟩⟩
theorem q_cX6_91 (lv : Nat) (h : 1 ≤ lv) : z_CV RX6 lv 91 mX2_begin RX2 0 := ⟨⟨z_in 251 (by decide +kernel), z_in 252 (by decide +kernel), z_in 253 (by decide +kernel), z_in 5 (by decide +kernel), z_in 254 (by decide +kernel)⟩, ⟨rfl, by decide +kernel, by decide +kernel, by decide +kernel⟩, ⟨h, by show 8 + (2 + 11) + 36 * 0 ≤ 36 * lv; omega⟩⟩
theorem q_cX6_94 (lv : Nat) (h : 1 ≤ lv) : z_CV RX6 lv 94 mX0_forget RX0 0 := ⟨⟨z_in 255 (by decide +kernel), z_in 256 (by decide +kernel), z_in 257 (by decide +kernel), z_in 6 (by decide +kernel), z_in 258 (by decide +kernel)⟩, ⟨rfl, by decide +kernel, by decide +kernel, by decide +kernel⟩, ⟨h, by show 8 + (1 + 11) + 36 * 0 ≤ 36 * lv; omega⟩⟩
theorem q_cX6_106 (lv : Nat) (h : 1 ≤ lv) : z_CV RX6 lv 106 mX6_isPin RX6 1 := ⟨⟨z_in 263 (by decide +kernel), z_in 265 (by decide +kernel), z_inp 3 (q := (yX6_isPin, 12)) (by decide +kernel), z_in 1 (by decide +kernel), z_in 266 (by decide +kernel)⟩, ⟨rfl, by decide +kernel, by decide +kernel, by decide +kernel⟩, ⟨h, by show 8 + (2 + 11) + 36 * 0 ≤ 36 * lv; omega⟩⟩
theorem q_cX6_125 (lv : Nat) (h : 2 ≤ lv) : z_CV RX6 lv 125 mX4_holds RX4 2 := ⟨⟨z_in 267 (by decide +kernel), z_in 268 (by decide +kernel), z_in 269 (by decide +kernel), z_in 3 (by decide +kernel), z_in 270 (by decide +kernel)⟩, ⟨rfl, by decide +kernel, by decide +kernel, by decide +kernel⟩, ⟨h, by show 8 + (3 + 11) + 36 * 1 ≤ 36 * lv; omega⟩⟩
theorem q_cX6_129 (lv : Nat) (h : 1 ≤ lv) : z_CV RX6 lv 129 mX2_isOpen RX2 1 := ⟨⟨z_in 274 (by decide +kernel), z_in 275 (by decide +kernel), z_in 276 (by decide +kernel), z_in 5 (by decide +kernel), z_in 277 (by decide +kernel)⟩, ⟨rfl, by decide +kernel, by decide +kernel, by decide +kernel⟩, ⟨h, by show 8 + (2 + 11) + 36 * 0 ≤ 36 * lv; omega⟩⟩
theorem q_cX6_132 (lv : Nat) (h : 1 ≤ lv) : z_CS RX6 lv 132 mX6_isThing 1 := ⟨⟨z_in 282 (by decide +kernel), z_in 283 (by decide +kernel), z_in 1 (by decide +kernel), z_in 284 (by decide +kernel)⟩, ⟨by decide +kernel, by decide +kernel, by decide +kernel⟩, ⟨h, by show 8 + (1 + 11) + 36 * 0 ≤ 36 * lv; omega⟩⟩
theorem q_cX6_138 (lv : Nat) (h : 2 ≤ lv) : z_CV RX6 lv 138 mX4_reach RX4 2 := ⟨⟨z_in 285 (by decide +kernel), z_in 286 (by decide +kernel), z_in 287 (by decide +kernel), z_in 3 (by decide +kernel), z_in 288 (by decide +kernel)⟩, ⟨rfl, by decide +kernel, by decide +kernel, by decide +kernel⟩, ⟨h, by show 8 + (6 + 11) + 36 * 1 ≤ 36 * lv; omega⟩⟩
theorem q_cX6_141 (lv : Nat) (h : 2 ≤ lv) : z_CV RX6 lv 141 mX0_remember RX0 1 := ⟨⟨z_in 297 (by decide +kernel), z_in 298 (by decide +kernel), z_in 299 (by decide +kernel), z_in 6 (by decide +kernel), z_in 300 (by decide +kernel)⟩, ⟨rfl, by decide +kernel, by decide +kernel, by decide +kernel⟩, ⟨h, by show 8 + (2 + 11) + 36 * 1 ≤ 36 * lv; omega⟩⟩
theorem q_cX6_145 (lv : Nat) (h : 5 ≤ lv) : z_CV RX6 lv 145 mX1_passDay RX1 1 := ⟨⟨z_in 308 (by decide +kernel), z_in 309 (by decide +kernel), z_in 310 (by decide +kernel), z_in 4 (by decide +kernel), z_in 311 (by decide +kernel)⟩, ⟨rfl, by decide +kernel, by decide +kernel, by decide +kernel⟩, ⟨h, by show 8 + (3 + 11) + 36 * 4 ≤ 36 * lv; omega⟩⟩
theorem q_cX6_149 (lv : Nat) (h : 5 ≤ lv) : z_CV RX6 lv 149 mX1_pullAt RX1 3 := ⟨⟨z_in 359 (by decide +kernel), z_in 360 (by decide +kernel), z_in 361 (by decide +kernel), z_in 4 (by decide +kernel), z_in 362 (by decide +kernel)⟩, ⟨rfl, by decide +kernel, by decide +kernel, by decide +kernel⟩, ⟨h, by show 8 + (4 + 11) + 36 * 4 ≤ 36 * lv; omega⟩⟩
theorem q_cX6_153 (lv : Nat) (h : 1 ≤ lv) : z_CV RX6 lv 153 mX2_close RX2 1 := ⟨⟨z_in 367 (by decide +kernel), z_in 368 (by decide +kernel), z_in 369 (by decide +kernel), z_in 5 (by decide +kernel), z_in 370 (by decide +kernel)⟩, ⟨rfl, by decide +kernel, by decide +kernel, by decide +kernel⟩, ⟨h, by show 8 + (2 + 11) + 36 * 0 ≤ 36 * lv; omega⟩⟩
theorem q_cX6_156 (lv : Nat) (h : 1 ≤ lv) : z_CS RX6 lv 156 mJ6_bitCount_0f7a4 1 := ⟨⟨z_in 371 (by decide +kernel), z_in 332 (by decide +kernel), z_in 10 (by decide +kernel), z_in 333 (by decide +kernel)⟩, ⟨by decide +kernel, by decide +kernel, by decide +kernel⟩, ⟨h, by show 8 + (1 + 11) + 36 * 0 ≤ 36 * lv; omega⟩⟩
theorem q_cX6_162 (lv : Nat) (h : 1 ≤ lv) : z_CV RX6 lv 162 mX2_unpin RX2 1 := ⟨⟨z_in 376 (by decide +kernel), z_in 377 (by decide +kernel), z_in 378 (by decide +kernel), z_in 5 (by decide +kernel), z_in 379 (by decide +kernel)⟩, ⟨rfl, by decide +kernel, by decide +kernel, by decide +kernel⟩, ⟨h, by show 8 + (2 + 11) + 36 * 0 ≤ 36 * lv; omega⟩⟩
theorem q_cX6_166 (lv : Nat) (h : 2 ≤ lv) : z_CV RX6 lv 166 mX0_takeBack RX0 1 := ⟨⟨z_in 384 (by decide +kernel), z_in 385 (by decide +kernel), z_in 386 (by decide +kernel), z_in 6 (by decide +kernel), z_in 387 (by decide +kernel)⟩, ⟨rfl, by decide +kernel, by decide +kernel, by decide +kernel⟩, ⟨h, by show 8 + (2 + 11) + 36 * 1 ≤ 36 * lv; omega⟩⟩
theorem q_cX6_169 (lv : Nat) (h : 1 ≤ lv) : z_CV RX6 lv 169 mX2_become RX2 1 := ⟨⟨z_in 392 (by decide +kernel), z_in 302 (by decide +kernel), z_in 303 (by decide +kernel), z_in 5 (by decide +kernel), z_in 304 (by decide +kernel)⟩, ⟨rfl, by decide +kernel, by decide +kernel, by decide +kernel⟩, ⟨h, by show 8 + (3 + 11) + 36 * 0 ≤ 36 * lv; omega⟩⟩
theorem q_cX6_172 (lv : Nat) (h : 1 ≤ lv) : z_CV RX6 lv 172 mX1_clear RX1 0 := ⟨⟨z_in 401 (by decide +kernel), z_in 317 (by decide +kernel), z_in 318 (by decide +kernel), z_in 4 (by decide +kernel), z_in 319 (by decide +kernel)⟩, ⟨rfl, by decide +kernel, by decide +kernel, by decide +kernel⟩, ⟨h, by show 8 + (2 + 11) + 36 * 0 ≤ 36 * lv; omega⟩⟩
theorem q_cX6_175 (lv : Nat) (h : 1 ≤ lv) : z_CV RX6 lv 175 mX1_burdenEnds RX1 1 := ⟨⟨z_in 402 (by decide +kernel), z_in 348 (by decide +kernel), z_in 349 (by decide +kernel), z_in 4 (by decide +kernel), z_in 350 (by decide +kernel)⟩, ⟨rfl, by decide +kernel, by decide +kernel, by decide +kernel⟩, ⟨h, by show 8 + (2 + 11) + 36 * 0 ≤ 36 * lv; omega⟩⟩
theorem q_cX6_178 (lv : Nat) (h : 4 ≤ lv) : z_CV RX6 lv 178 mX1_ping RX1 1 := ⟨⟨z_in 403 (by decide +kernel), z_in 328 (by decide +kernel), z_in 329 (by decide +kernel), z_in 4 (by decide +kernel), z_in 330 (by decide +kernel)⟩, ⟨rfl, by decide +kernel, by decide +kernel, by decide +kernel⟩, ⟨h, by show 8 + (6 + 11) + 36 * 3 ≤ 36 * lv; omega⟩⟩
theorem q_cX6_181 (lv : Nat) (h : 2 ≤ lv) : z_CS RX6 lv 181 mX6_refusalOfTwo 2 := ⟨⟨z_in 408 (by decide +kernel), z_in 409 (by decide +kernel), z_in 1 (by decide +kernel), z_in 410 (by decide +kernel)⟩, ⟨by decide +kernel, by decide +kernel, by decide +kernel⟩, ⟨h, by show 8 + (2 + 11) + 36 * 1 ≤ 36 * lv; omega⟩⟩
theorem q_cX6_184 (lv : Nat) (h : 1 ≤ lv) : z_CV RX6 lv 184 mX4_allPins RX4 0 := ⟨⟨z_in 411 (by decide +kernel), z_in 412 (by decide +kernel), z_in 413 (by decide +kernel), z_in 3 (by decide +kernel), z_in 414 (by decide +kernel)⟩, ⟨rfl, by decide +kernel, by decide +kernel, by decide +kernel⟩, ⟨h, by show 8 + (1 + 11) + 36 * 0 ≤ 36 * lv; omega⟩⟩
theorem q_cX6_187 (lv : Nat) (h : 2 ≤ lv) : z_CV RX6 lv 187 mX6_isBetterCut RX6 2 := ⟨⟨z_in 415 (by decide +kernel), z_in 417 (by decide +kernel), z_inp 8 (q := (yX6_isBetterCut, 12)) (by decide +kernel), z_in 1 (by decide +kernel), z_in 418 (by decide +kernel)⟩, ⟨rfl, by decide +kernel, by decide +kernel, by decide +kernel⟩, ⟨h, by show 8 + (4 + 11) + 36 * 1 ≤ 36 * lv; omega⟩⟩
theorem q_cX6_191 (lv : Nat) (h : 3 ≤ lv) : z_CV RX6 lv 191 mX4_areTogether RX4 3 := ⟨⟨z_in 419 (by decide +kernel), z_in 420 (by decide +kernel), z_in 421 (by decide +kernel), z_in 3 (by decide +kernel), z_in 422 (by decide +kernel)⟩, ⟨rfl, by decide +kernel, by decide +kernel, by decide +kernel⟩, ⟨h, by show 8 + (4 + 11) + 36 * 2 ≤ 36 * lv; omega⟩⟩
theorem q_cX6_195 (lv : Nat) (h : 6 ≤ lv) : z_CV RX6 lv 195 mX6_firstThatParts RX6 3 := ⟨⟨z_in 428 (by decide +kernel), z_in 430 (by decide +kernel), z_inp 9 (q := (yX6_firstThatParts, 12)) (by decide +kernel), z_in 1 (by decide +kernel), z_in 431 (by decide +kernel)⟩, ⟨rfl, by decide +kernel, by decide +kernel, by decide +kernel⟩, ⟨h, by show 8 + (5 + 11) + 36 * 5 ≤ 36 * lv; omega⟩⟩
theorem q_cX6_199 (lv : Nat) (h : 4 ≤ lv) : z_CV RX6 lv 199 mX4_doable RX4 1 := ⟨⟨z_in 436 (by decide +kernel), z_in 437 (by decide +kernel), z_in 438 (by decide +kernel), z_in 3 (by decide +kernel), z_in 439 (by decide +kernel)⟩, ⟨rfl, by decide +kernel, by decide +kernel, by decide +kernel⟩, ⟨h, by show 8 + (4 + 11) + 36 * 3 ≤ 36 * lv; omega⟩⟩
theorem q_cX6_208 (lv : Nat) (h : 6 ≤ lv) : z_CV RX6 lv 208 mX6_comesTrue RX6 3 := ⟨⟨z_in 448 (by decide +kernel), z_in 450 (by decide +kernel), z_inp 10 (q := (yX6_comesTrue, 12)) (by decide +kernel), z_in 1 (by decide +kernel), z_in 451 (by decide +kernel)⟩, ⟨rfl, by decide +kernel, by decide +kernel, by decide +kernel⟩, ⟨h, by show 8 + (4 + 11) + 36 * 5 ≤ 36 * lv; omega⟩⟩
theorem q_cX6_212 (lv : Nat) (h : 1 ≤ lv) : z_CV RX6 lv 212 mX5_add RX5 2 := ⟨⟨z_in 464 (by decide +kernel), z_in 465 (by decide +kernel), z_in 466 (by decide +kernel), z_in 7 (by decide +kernel), z_in 467 (by decide +kernel)⟩, ⟨rfl, by decide +kernel, by decide +kernel, by decide +kernel⟩, ⟨h, by show 8 + (3 + 11) + 36 * 0 ≤ 36 * lv; omega⟩⟩
theorem q_cX6_215 (lv : Nat) (h : 1 ≤ lv) : z_CV RX6 lv 215 mX5_agreeWith RX5 2 := ⟨⟨z_in 476 (by decide +kernel), z_in 477 (by decide +kernel), z_in 478 (by decide +kernel), z_in 7 (by decide +kernel), z_in 479 (by decide +kernel)⟩, ⟨rfl, by decide +kernel, by decide +kernel, by decide +kernel⟩, ⟨h, by show 8 + (5 + 11) + 36 * 0 ≤ 36 * lv; omega⟩⟩
theorem q_cX6_218 (lv : Nat) (h : 3 ≤ lv) : z_CS RX6 lv 218 mX6_inLeastTerms 3 := ⟨⟨z_in 484 (by decide +kernel), z_in 485 (by decide +kernel), z_in 1 (by decide +kernel), z_in 486 (by decide +kernel)⟩, ⟨by decide +kernel, by decide +kernel, by decide +kernel⟩, ⟨h, by show 8 + (7 + 11) + 36 * 2 ≤ 36 * lv; omega⟩⟩
theorem q_cX6_222 (lv : Nat) (h : 4 ≤ lv) : z_CV RX6 lv 222 mX6_pairsBroughtInAllOrders RX6 3 := ⟨⟨z_in 493 (by decide +kernel), z_in 495 (by decide +kernel), z_inp 13 (q := (yX6_pairsBroughtInAllOrders, 12)) (by decide +kernel), z_in 1 (by decide +kernel), z_in 496 (by decide +kernel)⟩, ⟨rfl, by decide +kernel, by decide +kernel, by decide +kernel⟩, ⟨h, by show 8 + (11 + 11) + 36 * 3 ≤ 36 * lv; omega⟩⟩
theorem q_cX6_229 (lv : Nat) (h : 5 ≤ lv) : z_CV RX6 lv 229 mX6_reckonGains RX6 2 := ⟨⟨z_in 508 (by decide +kernel), z_in 510 (by decide +kernel), z_inp 14 (q := (yX6_reckonGains, 12)) (by decide +kernel), z_in 1 (by decide +kernel), z_in 511 (by decide +kernel)⟩, ⟨rfl, by decide +kernel, by decide +kernel, by decide +kernel⟩, ⟨h, by show 8 + (6 + 11) + 36 * 4 ≤ 36 * lv; omega⟩⟩
theorem q_cX6_233 (lv : Nat) (h : 1 ≤ lv) : z_CV RX6 lv 233 mX6_isAtRest RX6 2 := ⟨⟨z_in 517 (by decide +kernel), z_in 519 (by decide +kernel), z_inp 16 (q := (yX6_isAtRest, 12)) (by decide +kernel), z_in 1 (by decide +kernel), z_in 520 (by decide +kernel)⟩, ⟨rfl, by decide +kernel, by decide +kernel, by decide +kernel⟩, ⟨h, by show 8 + (5 + 11) + 36 * 0 ≤ 36 * lv; omega⟩⟩
theorem q_cX6_236 (lv : Nat) (h : 1 ≤ lv) : z_CS RX6 lv 236 mX6_power 2 := ⟨⟨z_in 525 (by decide +kernel), z_in 526 (by decide +kernel), z_in 1 (by decide +kernel), z_in 527 (by decide +kernel)⟩, ⟨by decide +kernel, by decide +kernel, by decide +kernel⟩, ⟨h, by show 8 + (5 + 11) + 36 * 0 ≤ 36 * lv; omega⟩⟩
theorem q_cX6_244 (lv : Nat) (h : 6 ≤ lv) : z_CV RX6 lv 244 mX6_passSeason RX6 1 := ⟨⟨z_in 538 (by decide +kernel), z_in 540 (by decide +kernel), z_inp 17 (q := (yX6_passSeason, 12)) (by decide +kernel), z_in 1 (by decide +kernel), z_in 541 (by decide +kernel)⟩, ⟨rfl, by decide +kernel, by decide +kernel, by decide +kernel⟩, ⟨h, by show 8 + (2 + 11) + 36 * 5 ≤ 36 * lv; omega⟩⟩
theorem q_cX6_250 (lv : Nat) (h : 3 ≤ lv) : z_CV RX6 lv 250 mX4_pairsTogether RX4 1 := ⟨⟨z_in 499 (by decide +kernel), z_in 500 (by decide +kernel), z_in 501 (by decide +kernel), z_in 3 (by decide +kernel), z_in 502 (by decide +kernel)⟩, ⟨rfl, by decide +kernel, by decide +kernel, by decide +kernel⟩, ⟨h, by show 8 + (4 + 11) + 36 * 2 ≤ 36 * lv; omega⟩⟩
theorem q_cX6_253 (lv : Nat) (h : 1 ≤ lv) : z_CV RX6 lv 253 mX2_wearOfAll RX2 0 := ⟨⟨z_in 554 (by decide +kernel), z_in 555 (by decide +kernel), z_in 556 (by decide +kernel), z_in 5 (by decide +kernel), z_in 557 (by decide +kernel)⟩, ⟨rfl, by decide +kernel, by decide +kernel, by decide +kernel⟩, ⟨h, by show 8 + (3 + 11) + 36 * 0 ≤ 36 * lv; omega⟩⟩
theorem q_cX6_256 (lv : Nat) (h : 2 ≤ lv) : z_CV RX6 lv 256 mX6_closesInThought RX6 1 := ⟨⟨z_in 452 (by decide +kernel), z_in 454 (by decide +kernel), z_inp 11 (q := (yX6_closesInThought, 12)) (by decide +kernel), z_in 1 (by decide +kernel), z_in 455 (by decide +kernel)⟩, ⟨rfl, by decide +kernel, by decide +kernel, by decide +kernel⟩, ⟨h, by show 8 + (2 + 11) + 36 * 1 ≤ 36 * lv; omega⟩⟩
theorem q_cX6_259 (lv : Nat) (h : 2 ≤ lv) : z_CV RX6 lv 259 mX6_unpinsInThought RX6 1 := ⟨⟨z_in 456 (by decide +kernel), z_in 458 (by decide +kernel), z_inp 12 (q := (yX6_unpinsInThought, 12)) (by decide +kernel), z_in 1 (by decide +kernel), z_in 459 (by decide +kernel)⟩, ⟨rfl, by decide +kernel, by decide +kernel, by decide +kernel⟩, ⟨h, by show 8 + (2 + 11) + 36 * 1 ≤ 36 * lv; omega⟩⟩
theorem q_cX6_262 (lv : Nat) (h : 1 ≤ lv) : z_CV RX6 lv 262 mX1_burden RX1 2 := ⟨⟨z_in 512 (by decide +kernel), z_in 324 (by decide +kernel), z_in 325 (by decide +kernel), z_in 4 (by decide +kernel), z_in 326 (by decide +kernel)⟩, ⟨rfl, by decide +kernel, by decide +kernel, by decide +kernel⟩, ⟨h, by show 8 + (3 + 11) + 36 * 0 ≤ 36 * lv; omega⟩⟩
theorem q_cX6_265 (lv : Nat) (h : 3 ≤ lv) : z_CV RX6 lv 265 mX6_priceOfBeingAlone RX6 1 := ⟨⟨z_in 513 (by decide +kernel), z_in 515 (by decide +kernel), z_inp 15 (q := (yX6_priceOfBeingAlone, 12)) (by decide +kernel), z_in 1 (by decide +kernel), z_in 516 (by decide +kernel)⟩, ⟨rfl, by decide +kernel, by decide +kernel, by decide +kernel⟩, ⟨h, by show 8 + (2 + 11) + 36 * 2 ≤ 36 * lv; omega⟩⟩
theorem q_cX6_268 (lv : Nat) (h : 2 ≤ lv) : z_CS RX6 lv 268 mX6_commonDivisor 2 := ⟨⟨z_in 487 (by decide +kernel), z_in 488 (by decide +kernel), z_in 1 (by decide +kernel), z_in 489 (by decide +kernel)⟩, ⟨by decide +kernel, by decide +kernel, by decide +kernel⟩, ⟨h, by show 8 + (11 + 11) + 36 * 1 ≤ 36 * lv; omega⟩⟩
theorem q_cX6_272 (lv : Nat) (h : 1 ≤ lv) : z_CS RX6 lv 272 mJ9_max_f86c9 2 := ⟨⟨z_in 490 (by decide +kernel), z_in 491 (by decide +kernel), z_in 9 (by decide +kernel), z_in 492 (by decide +kernel)⟩, ⟨by decide +kernel, by decide +kernel, by decide +kernel⟩, ⟨h, by show 8 + (4 + 11) + 36 * 0 ≤ 36 * lv; omega⟩⟩
theorem q_cX0_25 (lv : Nat) (h : 1 ≤ lv) : z_CV RX0 lv 25 mX2_become RX2 1 := ⟨⟨z_in 301 (by decide +kernel), z_in 302 (by decide +kernel), z_in 303 (by decide +kernel), z_in 5 (by decide +kernel), z_in 304 (by decide +kernel)⟩, ⟨rfl, by decide +kernel, by decide +kernel, by decide +kernel⟩, ⟨h, by show 8 + (3 + 11) + 36 * 0 ≤ 36 * lv; omega⟩⟩
theorem q_cX0_29 (lv : Nat) (h : 1 ≤ lv) : z_CS RX0 lv 29 mJ9_min_7cf53 2 := ⟨⟨z_in 305 (by decide +kernel), z_in 306 (by decide +kernel), z_in 9 (by decide +kernel), z_in 307 (by decide +kernel)⟩, ⟨by decide +kernel, by decide +kernel, by decide +kernel⟩, ⟨h, by show 8 + (2 + 11) + 36 * 0 ≤ 36 * lv; omega⟩⟩
theorem q_cX1_33 (lv : Nat) (h : 1 ≤ lv) : z_CS RX1 lv 33 mJ6_bitCount_0f7a4 1 := ⟨⟨z_in 331 (by decide +kernel), z_in 332 (by decide +kernel), z_in 10 (by decide +kernel), z_in 333 (by decide +kernel)⟩, ⟨by decide +kernel, by decide +kernel, by decide +kernel⟩, ⟨h, by show 8 + (1 + 11) + 36 * 0 ≤ 36 * lv; omega⟩⟩
theorem q_cX1_42 (lv : Nat) (h : 3 ≤ lv) : z_CV RX1 lv 42 mX1_givingNow RX1 1 := ⟨⟨z_in 337 (by decide +kernel), z_in 339 (by decide +kernel), z_inp 5 (q := (yX1_givingNow, 2)) (by decide +kernel), z_in 4 (by decide +kernel), z_in 340 (by decide +kernel)⟩, ⟨rfl, by decide +kernel, by decide +kernel, by decide +kernel⟩, ⟨h, by show 8 + (4 + 11) + 36 * 2 ≤ 36 * lv; omega⟩⟩
theorem q_cX1_46 (lv : Nat) (h : 1 ≤ lv) : z_CV RX1 lv 46 mX1_burdenEnds RX1 1 := ⟨⟨z_in 347 (by decide +kernel), z_in 348 (by decide +kernel), z_in 349 (by decide +kernel), z_in 4 (by decide +kernel), z_in 350 (by decide +kernel)⟩, ⟨rfl, by decide +kernel, by decide +kernel, by decide +kernel⟩, ⟨h, by show 8 + (2 + 11) + 36 * 0 ≤ 36 * lv; omega⟩⟩
theorem q_cX1_50 (lv : Nat) (h : 1 ≤ lv) : z_CV RX1 lv 50 mX2_isOpen RX2 1 := ⟨⟨z_in 341 (by decide +kernel), z_in 275 (by decide +kernel), z_in 276 (by decide +kernel), z_in 5 (by decide +kernel), z_in 277 (by decide +kernel)⟩, ⟨rfl, by decide +kernel, by decide +kernel, by decide +kernel⟩, ⟨h, by show 8 + (2 + 11) + 36 * 0 ≤ 36 * lv; omega⟩⟩
theorem q_cX1_54 (lv : Nat) (h : 1 ≤ lv) : z_CV RX1 lv 54 mX1_loadOf RX1 1 := ⟨⟨z_in 342 (by decide +kernel), z_in 344 (by decide +kernel), z_inp 6 (q := (yX1_loadOf, 2)) (by decide +kernel), z_in 4 (by decide +kernel), z_in 345 (by decide +kernel)⟩, ⟨rfl, by decide +kernel, by decide +kernel, by decide +kernel⟩, ⟨h, by show 8 + (2 + 11) + 36 * 0 ≤ 36 * lv; omega⟩⟩
theorem q_cX1_60 (lv : Nat) (h : 2 ≤ lv) : z_CV RX1 lv 60 mX4_holds RX4 2 := ⟨⟨z_in 346 (by decide +kernel), z_in 268 (by decide +kernel), z_in 269 (by decide +kernel), z_in 3 (by decide +kernel), z_in 270 (by decide +kernel)⟩, ⟨rfl, by decide +kernel, by decide +kernel, by decide +kernel⟩, ⟨h, by show 8 + (3 + 11) + 36 * 1 ≤ 36 * lv; omega⟩⟩
theorem q_cX1_64 (lv : Nat) (h : 1 ≤ lv) : z_CV RX1 lv 64 mX1_clear RX1 0 := ⟨⟨z_in 316 (by decide +kernel), z_in 317 (by decide +kernel), z_in 318 (by decide +kernel), z_in 4 (by decide +kernel), z_in 319 (by decide +kernel)⟩, ⟨rfl, by decide +kernel, by decide +kernel, by decide +kernel⟩, ⟨h, by show 8 + (2 + 11) + 36 * 0 ≤ 36 * lv; omega⟩⟩
theorem q_cX1_67 (lv : Nat) (h : 1 ≤ lv) : z_CV RX1 lv 67 mX1_burden RX1 2 := ⟨⟨z_in 323 (by decide +kernel), z_in 324 (by decide +kernel), z_in 325 (by decide +kernel), z_in 4 (by decide +kernel), z_in 326 (by decide +kernel)⟩, ⟨rfl, by decide +kernel, by decide +kernel, by decide +kernel⟩, ⟨h, by show 8 + (3 + 11) + 36 * 0 ≤ 36 * lv; omega⟩⟩
theorem q_cX1_71 (lv : Nat) (h : 4 ≤ lv) : z_CV RX1 lv 71 mX1_ping RX1 1 := ⟨⟨z_in 327 (by decide +kernel), z_in 328 (by decide +kernel), z_in 329 (by decide +kernel), z_in 4 (by decide +kernel), z_in 330 (by decide +kernel)⟩, ⟨rfl, by decide +kernel, by decide +kernel, by decide +kernel⟩, ⟨h, by show 8 + (6 + 11) + 36 * 3 ≤ 36 * lv; omega⟩⟩
theorem q_cX1_74 (lv : Nat) (h : 1 ≤ lv) : z_CV RX1 lv 74 mX1_springShut RX1 1 := ⟨⟨z_in 312 (by decide +kernel), z_in 314 (by decide +kernel), z_inp 4 (q := (yX1_springShut, 2)) (by decide +kernel), z_in 4 (by decide +kernel), z_in 315 (by decide +kernel)⟩, ⟨rfl, by decide +kernel, by decide +kernel, by decide +kernel⟩, ⟨h, by show 8 + (3 + 11) + 36 * 0 ≤ 36 * lv; omega⟩⟩
theorem q_cX1_84 (lv : Nat) (h : 1 ≤ lv) : z_CS RX1 lv 84 mJ9_floorMod_7cf53 2 := ⟨⟨z_in 320 (by decide +kernel), z_in 321 (by decide +kernel), z_in 9 (by decide +kernel), z_in 322 (by decide +kernel)⟩, ⟨by decide +kernel, by decide +kernel, by decide +kernel⟩, ⟨h, by show 8 + (3 + 11) + 36 * 0 ≤ 36 * lv; omega⟩⟩
theorem q_cX1_95 (lv : Nat) (h : 2 ≤ lv) : z_CV RX1 lv 95 mX1_wearDown RX1 1 := ⟨⟨z_in 351 (by decide +kernel), z_in 353 (by decide +kernel), z_inp 7 (q := (yX1_wearDown, 2)) (by decide +kernel), z_in 4 (by decide +kernel), z_in 354 (by decide +kernel)⟩, ⟨rfl, by decide +kernel, by decide +kernel, by decide +kernel⟩, ⟨h, by show 8 + (3 + 11) + 36 * 1 ≤ 36 * lv; omega⟩⟩
theorem q_cX3_19 (lv : Nat) (h : 2 ≤ lv) : z_CV RX3 lv 19 mX3_canBegin RX3 1 := ⟨⟨z_in 220 (by decide +kernel), z_in 222 (by decide +kernel), z_inp 0 (q := (yX3_canBegin, 2)) (by decide +kernel), z_in 2 (by decide +kernel), z_in 223 (by decide +kernel)⟩, ⟨rfl, by decide +kernel, by decide +kernel, by decide +kernel⟩, ⟨h, by show 8 + (5 + 11) + 36 * 1 ≤ 36 * lv; omega⟩⟩
theorem q_cX3_23 (lv : Nat) (h : 2 ≤ lv) : z_CV RX3 lv 23 mX3_canGoOn RX3 2 := ⟨⟨z_in 230 (by decide +kernel), z_in 232 (by decide +kernel), z_inp 1 (q := (yX3_canGoOn, 2)) (by decide +kernel), z_in 2 (by decide +kernel), z_in 233 (by decide +kernel)⟩, ⟨rfl, by decide +kernel, by decide +kernel, by decide +kernel⟩, ⟨h, by show 8 + (5 + 11) + 36 * 1 ≤ 36 * lv; omega⟩⟩
theorem q_cX3_27 (lv : Nat) (h : 1 ≤ lv) : z_CS RX3 lv 27 mX3_sizeOfPart 1 := ⟨⟨z_in 224 (by decide +kernel), z_in 225 (by decide +kernel), z_in 2 (by decide +kernel), z_in 226 (by decide +kernel)⟩, ⟨by decide +kernel, by decide +kernel, by decide +kernel⟩, ⟨h, by show 8 + (1 + 11) + 36 * 0 ≤ 36 * lv; omega⟩⟩
theorem q_cX3_31 (lv : Nat) (h : 1 ≤ lv) : z_CS RX3 lv 31 mX3_mostOf 1 := ⟨⟨z_in 227 (by decide +kernel), z_in 228 (by decide +kernel), z_in 2 (by decide +kernel), z_in 229 (by decide +kernel)⟩, ⟨by decide +kernel, by decide +kernel, by decide +kernel⟩, ⟨h, by show 8 + (1 + 11) + 36 * 0 ≤ 36 * lv; omega⟩⟩
theorem q_cX3_34 (lv : Nat) (h : 1 ≤ lv) : z_CV RX3 lv 34 mX3_figure RX3 1 := ⟨⟨z_in 234 (by decide +kernel), z_in 235 (by decide +kernel), z_in 236 (by decide +kernel), z_in 2 (by decide +kernel), z_in 237 (by decide +kernel)⟩, ⟨rfl, by decide +kernel, by decide +kernel, by decide +kernel⟩, ⟨h, by show 8 + (3 + 11) + 36 * 0 ≤ 36 * lv; omega⟩⟩
theorem q_cX4_54 (lv : Nat) (h : 2 ≤ lv) : z_CV RX4 lv 54 mX4_addPin RX4 2 := ⟨⟨z_in 246 (by decide +kernel), z_in 248 (by decide +kernel), z_inp 2 (q := (yX4_addPin, 11)) (by decide +kernel), z_in 3 (by decide +kernel), z_in 249 (by decide +kernel)⟩, ⟨rfl, by decide +kernel, by decide +kernel, by decide +kernel⟩, ⟨h, by show 8 + (3 + 11) + 36 * 1 ≤ 36 * lv; omega⟩⟩
theorem q_cX4_58 (lv : Nat) (h : 1 ≤ lv) : z_CV RX4 lv 58 mX3_figure RX3 1 := ⟨⟨z_in 250 (by decide +kernel), z_in 235 (by decide +kernel), z_in 236 (by decide +kernel), z_in 2 (by decide +kernel), z_in 237 (by decide +kernel)⟩, ⟨rfl, by decide +kernel, by decide +kernel, by decide +kernel⟩, ⟨h, by show 8 + (3 + 11) + 36 * 0 ≤ 36 * lv; omega⟩⟩
theorem q_cX4_62 (lv : Nat) (h : 1 ≤ lv) : z_CS RX4 lv 62 mJ9_max_7cf53 2 := ⟨⟨z_in 271 (by decide +kernel), z_in 272 (by decide +kernel), z_in 9 (by decide +kernel), z_in 273 (by decide +kernel)⟩, ⟨by decide +kernel, by decide +kernel, by decide +kernel⟩, ⟨h, by show 8 + (2 + 11) + 36 * 0 ≤ 36 * lv; omega⟩⟩
theorem q_cX4_68 (lv : Nat) (h : 1 ≤ lv) : z_CV RX4 lv 68 mX4_endsOf RX4 1 := ⟨⟨z_in 289 (by decide +kernel), z_in 290 (by decide +kernel), z_in 291 (by decide +kernel), z_in 3 (by decide +kernel), z_in 292 (by decide +kernel)⟩, ⟨rfl, by decide +kernel, by decide +kernel, by decide +kernel⟩, ⟨h, by show 8 + (2 + 11) + 36 * 0 ≤ 36 * lv; omega⟩⟩
theorem q_cX4_71 (lv : Nat) (h : 2 ≤ lv) : z_CV RX4 lv 71 mX4_reach RX4 2 := ⟨⟨z_in 423 (by decide +kernel), z_in 286 (by decide +kernel), z_in 287 (by decide +kernel), z_in 3 (by decide +kernel), z_in 288 (by decide +kernel)⟩, ⟨rfl, by decide +kernel, by decide +kernel, by decide +kernel⟩, ⟨h, by show 8 + (6 + 11) + 36 * 1 ≤ 36 * lv; omega⟩⟩
theorem q_cX4_74 (lv : Nat) (h : 1 ≤ lv) : z_CS RX4 lv 74 mJ6_bitCount_0f7a4 1 := ⟨⟨z_in 503 (by decide +kernel), z_in 332 (by decide +kernel), z_in 10 (by decide +kernel), z_in 333 (by decide +kernel)⟩, ⟨by decide +kernel, by decide +kernel, by decide +kernel⟩, ⟨h, by show 8 + (1 + 11) + 36 * 0 ≤ 36 * lv; omega⟩⟩
theorem q_cX4_79 (lv : Nat) (h : 3 ≤ lv) : z_CV RX4 lv 79 mX4_areTogether RX4 3 := ⟨⟨z_in 440 (by decide +kernel), z_in 420 (by decide +kernel), z_in 421 (by decide +kernel), z_in 3 (by decide +kernel), z_in 422 (by decide +kernel)⟩, ⟨rfl, by decide +kernel, by decide +kernel, by decide +kernel⟩, ⟨h, by show 8 + (4 + 11) + 36 * 2 ≤ 36 * lv; omega⟩⟩
theorem q_cX7_70 (lv : Nat) (h : 1 ≤ lv) : z_CS RX7 lv 70 mX7_in 3 := ⟨⟨z_in 666 (by decide +kernel), z_in 667 (by decide +kernel), z_in 8 (by decide +kernel), z_in 668 (by decide +kernel)⟩, ⟨by decide +kernel, by decide +kernel, by decide +kernel⟩, ⟨h, by show 8 + (6 + 11) + 36 * 0 ≤ 36 * lv; omega⟩⟩
theorem q_cX7_93 (lv : Nat) (h : 3 ≤ lv) : z_CV RX7 lv 93 mX7_readPart RX7 1 := ⟨⟨z_in 681 (by decide +kernel), z_in 683 (by decide +kernel), z_inp 19 (q := (yX7_readPart, 32)) (by decide +kernel), z_in 8 (by decide +kernel), z_in 684 (by decide +kernel)⟩, ⟨rfl, by decide +kernel, by decide +kernel, by decide +kernel⟩, ⟨h, by show 8 + (3 + 11) + 36 * 2 ≤ 36 * lv; omega⟩⟩
theorem q_cX7_97 (lv : Nat) (h : 2 ≤ lv) : z_CV RX7 lv 97 mX7_figureOf RX7 2 := ⟨⟨z_in 685 (by decide +kernel), z_in 687 (by decide +kernel), z_inp 20 (q := (yX7_figureOf, 32)) (by decide +kernel), z_in 8 (by decide +kernel), z_in 688 (by decide +kernel)⟩, ⟨rfl, by decide +kernel, by decide +kernel, by decide +kernel⟩, ⟨h, by show 8 + (5 + 11) + 36 * 1 ≤ 36 * lv; omega⟩⟩
theorem q_cX7_101 (lv : Nat) (h : 4 ≤ lv) : z_CV RX7 lv 101 mX7_readText RX7 0 := ⟨⟨z_in 677 (by decide +kernel), z_in 679 (by decide +kernel), z_inp 18 (q := (yX7_readText, 32)) (by decide +kernel), z_in 8 (by decide +kernel), z_in 680 (by decide +kernel)⟩, ⟨rfl, by decide +kernel, by decide +kernel, by decide +kernel⟩, ⟨h, by show 8 + (1 + 11) + 36 * 3 ≤ 36 * lv; omega⟩⟩
theorem q_cX7_119 (lv : Nat) (h : 1 ≤ lv) : z_CS RX7 lv 119 mX7_has 2 := ⟨⟨z_in 717 (by decide +kernel), z_in 718 (by decide +kernel), z_in 8 (by decide +kernel), z_in 719 (by decide +kernel)⟩, ⟨by decide +kernel, by decide +kernel, by decide +kernel⟩, ⟨h, by show 8 + (2 + 11) + 36 * 0 ≤ 36 * lv; omega⟩⟩
theorem q_cX7_123 (lv : Nat) (h : 2 ≤ lv) : z_CV RX7 lv 123 mX7_withBy RX7 2 := ⟨⟨z_in 713 (by decide +kernel), z_in 715 (by decide +kernel), z_inp 23 (q := (yX7_withBy, 32)) (by decide +kernel), z_in 8 (by decide +kernel), z_in 716 (by decide +kernel)⟩, ⟨rfl, by decide +kernel, by decide +kernel, by decide +kernel⟩, ⟨h, by show 8 + (7 + 11) + 36 * 1 ≤ 36 * lv; omega⟩⟩
theorem q_cX7_126 (lv : Nat) (h : 3 ≤ lv) : z_CV RX7 lv 126 mX7_isTogether RX7 3 := ⟨⟨z_in 797 (by decide +kernel), z_in 799 (by decide +kernel), z_inp 33 (q := (yX7_isTogether, 32)) (by decide +kernel), z_in 8 (by decide +kernel), z_in 800 (by decide +kernel)⟩, ⟨rfl, by decide +kernel, by decide +kernel, by decide +kernel⟩, ⟨h, by show 8 + (4 + 11) + 36 * 2 ≤ 36 * lv; omega⟩⟩
theorem q_cX7_130 (lv : Nat) (h : 1 ≤ lv) : z_CV RX7 lv 130 mX7_onBoth RX7 1 := ⟨⟨z_in 740 (by decide +kernel), z_in 742 (by decide +kernel), z_inp 28 (q := (yX7_onBoth, 32)) (by decide +kernel), z_in 8 (by decide +kernel), z_in 743 (by decide +kernel)⟩, ⟨rfl, by decide +kernel, by decide +kernel, by decide +kernel⟩, ⟨h, by show 8 + (2 + 11) + 36 * 0 ≤ 36 * lv; omega⟩⟩
theorem q_cX7_134 (lv : Nat) (h : 1 ≤ lv) : z_CV RX7 lv 134 mX7_holdsOn RX7 2 := ⟨⟨z_in 701 (by decide +kernel), z_in 703 (by decide +kernel), z_inp 22 (q := (yX7_holdsOn, 32)) (by decide +kernel), z_in 8 (by decide +kernel), z_in 704 (by decide +kernel)⟩, ⟨rfl, by decide +kernel, by decide +kernel, by decide +kernel⟩, ⟨h, by show 8 + (4 + 11) + 36 * 0 ≤ 36 * lv; omega⟩⟩
theorem q_cX7_137 (lv : Nat) (h : 1 ≤ lv) : z_CS RX7 lv 137 mX7_ones 1 := ⟨⟨z_in 744 (by decide +kernel), z_in 745 (by decide +kernel), z_in 8 (by decide +kernel), z_in 746 (by decide +kernel)⟩, ⟨by decide +kernel, by decide +kernel, by decide +kernel⟩, ⟨h, by show 8 + (3 + 11) + 36 * 0 ≤ 36 * lv; omega⟩⟩
theorem q_cX7_140 (lv : Nat) (h : 1 ≤ lv) : z_CV RX7 lv 140 mX7_unload RX7 0 := ⟨⟨z_in 732 (by decide +kernel), z_in 734 (by decide +kernel), z_inp 26 (q := (yX7_unload, 32)) (by decide +kernel), z_in 8 (by decide +kernel), z_in 735 (by decide +kernel)⟩, ⟨rfl, by decide +kernel, by decide +kernel, by decide +kernel⟩, ⟨h, by show 8 + (2 + 11) + 36 * 0 ≤ 36 * lv; omega⟩⟩
theorem q_cX7_143 (lv : Nat) (h : 2 ≤ lv) : z_CV RX7 lv 143 mX7_ping RX7 1 := ⟨⟨z_in 736 (by decide +kernel), z_in 738 (by decide +kernel), z_inp 27 (q := (yX7_ping, 32)) (by decide +kernel), z_in 8 (by decide +kernel), z_in 739 (by decide +kernel)⟩, ⟨rfl, by decide +kernel, by decide +kernel, by decide +kernel⟩, ⟨h, by show 8 + (5 + 11) + 36 * 1 ≤ 36 * lv; omega⟩⟩
theorem q_cX7_146 (lv : Nat) (h : 2 ≤ lv) : z_CV RX7 lv 146 mX7_isPin RX7 1 := ⟨⟨z_in 697 (by decide +kernel), z_in 699 (by decide +kernel), z_inp 21 (q := (yX7_isPin, 32)) (by decide +kernel), z_in 8 (by decide +kernel), z_in 700 (by decide +kernel)⟩, ⟨rfl, by decide +kernel, by decide +kernel, by decide +kernel⟩, ⟨h, by show 8 + (2 + 11) + 36 * 1 ≤ 36 * lv; omega⟩⟩
theorem q_cX7_150 (lv : Nat) (h : 2 ≤ lv) : z_CS RX7 lv 150 mX7_isThing 1 := ⟨⟨z_in 709 (by decide +kernel), z_in 710 (by decide +kernel), z_in 8 (by decide +kernel), z_in 711 (by decide +kernel)⟩, ⟨by decide +kernel, by decide +kernel, by decide +kernel⟩, ⟨h, by show 8 + (1 + 11) + 36 * 1 ≤ 36 * lv; omega⟩⟩
theorem q_cX7_156 (lv : Nat) (h : 1 ≤ lv) : z_CV RX7 lv 156 mX7_keepAct RX7 0 := ⟨⟨z_in 724 (by decide +kernel), z_in 726 (by decide +kernel), z_inp 24 (q := (yX7_keepAct, 32)) (by decide +kernel), z_in 8 (by decide +kernel), z_in 727 (by decide +kernel)⟩, ⟨rfl, by decide +kernel, by decide +kernel, by decide +kernel⟩, ⟨h, by show 8 + (2 + 11) + 36 * 0 ≤ 36 * lv; omega⟩⟩
theorem q_cX7_159 (lv : Nat) (h : 3 ≤ lv) : z_CV RX7 lv 159 mX7_passOn RX7 1 := ⟨⟨z_in 728 (by decide +kernel), z_in 730 (by decide +kernel), z_inp 25 (q := (yX7_passOn, 32)) (by decide +kernel), z_in 8 (by decide +kernel), z_in 731 (by decide +kernel)⟩, ⟨rfl, by decide +kernel, by decide +kernel, by decide +kernel⟩, ⟨h, by show 8 + (5 + 11) + 36 * 2 ≤ 36 * lv; omega⟩⟩
theorem q_cX7_164 (lv : Nat) (h : 3 ≤ lv) : z_CV RX7 lv 164 mX7_tugOn RX7 3 := ⟨⟨z_in 752 (by decide +kernel), z_in 754 (by decide +kernel), z_inp 29 (q := (yX7_tugOn, 32)) (by decide +kernel), z_in 8 (by decide +kernel), z_in 755 (by decide +kernel)⟩, ⟨rfl, by decide +kernel, by decide +kernel, by decide +kernel⟩, ⟨h, by show 8 + (4 + 11) + 36 * 2 ≤ 36 * lv; omega⟩⟩
theorem q_cX7_168 (lv : Nat) (h : 1 ≤ lv) : z_CV RX7 lv 168 mX7_shutOn RX7 2 := ⟨⟨z_in 760 (by decide +kernel), z_in 762 (by decide +kernel), z_inp 30 (q := (yX7_shutOn, 32)) (by decide +kernel), z_in 8 (by decide +kernel), z_in 763 (by decide +kernel)⟩, ⟨rfl, by decide +kernel, by decide +kernel, by decide +kernel⟩, ⟨h, by show 8 + (3 + 11) + 36 * 0 ≤ 36 * lv; omega⟩⟩
theorem q_cX7_174 (lv : Nat) (h : 1 ≤ lv) : z_CV RX7 lv 174 mX7_layTrial RX7 0 := ⟨⟨z_in 777 (by decide +kernel), z_in 779 (by decide +kernel), z_inp 31 (q := (yX7_layTrial, 32)) (by decide +kernel), z_in 8 (by decide +kernel), z_in 780 (by decide +kernel)⟩, ⟨rfl, by decide +kernel, by decide +kernel, by decide +kernel⟩, ⟨h, by show 8 + (2 + 11) + 36 * 0 ≤ 36 * lv; omega⟩⟩
theorem q_cX7_177 (lv : Nat) (h : 1 ≤ lv) : z_CV RX7 lv 177 mX7_all RX7 0 := ⟨⟨z_in 793 (by decide +kernel), z_in 795 (by decide +kernel), z_inp 32 (q := (yX7_all, 32)) (by decide +kernel), z_in 8 (by decide +kernel), z_in 796 (by decide +kernel)⟩, ⟨rfl, by decide +kernel, by decide +kernel, by decide +kernel⟩, ⟨h, by show 8 + (1 + 11) + 36 * 0 ≤ 36 * lv; omega⟩⟩
theorem q_cX7_180 (lv : Nat) (h : 4 ≤ lv) : z_CV RX7 lv 180 mX7_doableBy RX7 1 := ⟨⟨z_in 809 (by decide +kernel), z_in 811 (by decide +kernel), z_inp 34 (q := (yX7_doableBy, 32)) (by decide +kernel), z_in 8 (by decide +kernel), z_in 812 (by decide +kernel)⟩, ⟨rfl, by decide +kernel, by decide +kernel, by decide +kernel⟩, ⟨h, by show 8 + (4 + 11) + 36 * 3 ≤ 36 * lv; omega⟩⟩
theorem q_cX7_187 (lv : Nat) (h : 1 ≤ lv) : z_CS RX7 lv 187 mX7_thousandTo 1 := ⟨⟨z_in 818 (by decide +kernel), z_in 819 (by decide +kernel), z_in 8 (by decide +kernel), z_in 820 (by decide +kernel)⟩, ⟨by decide +kernel, by decide +kernel, by decide +kernel⟩, ⟨h, by show 8 + (4 + 11) + 36 * 0 ≤ 36 * lv; omega⟩⟩
theorem q_cX7_191 (lv : Nat) (h : 5 ≤ lv) : z_CV RX7 lv 191 mX7_tryThing RX7 3 := ⟨⟨z_in 822 (by decide +kernel), z_in 824 (by decide +kernel), z_inp 35 (q := (yX7_tryThing, 32)) (by decide +kernel), z_in 8 (by decide +kernel), z_in 825 (by decide +kernel)⟩, ⟨rfl, by decide +kernel, by decide +kernel, by decide +kernel⟩, ⟨h, by show 8 + (7 + 11) + 36 * 4 ≤ 36 * lv; omega⟩⟩
theorem q_cX7_199 (lv : Nat) (h : 1 ≤ lv) : z_CS RX7 lv 199 mX7_factorial 1 := ⟨⟨z_in 843 (by decide +kernel), z_in 844 (by decide +kernel), z_in 8 (by decide +kernel), z_in 845 (by decide +kernel)⟩, ⟨by decide +kernel, by decide +kernel, by decide +kernel⟩, ⟨h, by show 8 + (3 + 11) + 36 * 0 ≤ 36 * lv; omega⟩⟩
theorem q_cX7_202 (lv : Nat) (h : 4 ≤ lv) : z_CV RX7 lv 202 mX7_pairsBy RX7 1 := ⟨⟨z_in 846 (by decide +kernel), z_in 848 (by decide +kernel), z_inp 36 (q := (yX7_pairsBy, 32)) (by decide +kernel), z_in 8 (by decide +kernel), z_in 849 (by decide +kernel)⟩, ⟨rfl, by decide +kernel, by decide +kernel, by decide +kernel⟩, ⟨h, by show 8 + (5 + 11) + 36 * 3 ≤ 36 * lv; omega⟩⟩
theorem q_cX7_205 (lv : Nat) (h : 1 ≤ lv) : z_CS RX7 lv 205 mX7_common 2 := ⟨⟨z_in 850 (by decide +kernel), z_in 851 (by decide +kernel), z_in 8 (by decide +kernel), z_in 852 (by decide +kernel)⟩, ⟨by decide +kernel, by decide +kernel, by decide +kernel⟩, ⟨h, by show 8 + (5 + 11) + 36 * 0 ≤ 36 * lv; omega⟩⟩
theorem q_cX7_208 (lv : Nat) (h : 3 ≤ lv) : z_CV RX7 lv 208 mX7_gain RX7 4 := ⟨⟨z_in 861 (by decide +kernel), z_in 863 (by decide +kernel), z_inp 38 (q := (yX7_gain, 32)) (by decide +kernel), z_in 8 (by decide +kernel), z_in 864 (by decide +kernel)⟩, ⟨rfl, by decide +kernel, by decide +kernel, by decide +kernel⟩, ⟨h, by show 8 + (6 + 11) + 36 * 2 ≤ 36 * lv; omega⟩⟩
theorem q_cX7_212 (lv : Nat) (h : 4 ≤ lv) : z_CV RX7 lv 212 mX7_isRest RX7 4 := ⟨⟨z_in 857 (by decide +kernel), z_in 859 (by decide +kernel), z_inp 37 (q := (yX7_isRest, 32)) (by decide +kernel), z_in 8 (by decide +kernel), z_in 860 (by decide +kernel)⟩, ⟨rfl, by decide +kernel, by decide +kernel, by decide +kernel⟩, ⟨h, by show 8 + (7 + 11) + 36 * 3 ≤ 36 * lv; omega⟩⟩
theorem q_cX7_218 (lv : Nat) (h : 1 ≤ lv) : z_CS RX7 lv 218 mX7_power 2 := ⟨⟨z_in 870 (by decide +kernel), z_in 871 (by decide +kernel), z_in 8 (by decide +kernel), z_in 872 (by decide +kernel)⟩, ⟨by decide +kernel, by decide +kernel, by decide +kernel⟩, ⟨h, by show 8 + (4 + 11) + 36 * 0 ≤ 36 * lv; omega⟩⟩
theorem q_cX7_233 (lv : Nat) (h : 1 ≤ lv) : z_CV RX7 lv 233 mX7_wearOfAll RX7 0 := ⟨⟨z_in 897 (by decide +kernel), z_in 899 (by decide +kernel), z_inp 39 (q := (yX7_wearOfAll, 32)) (by decide +kernel), z_in 8 (by decide +kernel), z_in 900 (by decide +kernel)⟩, ⟨rfl, by decide +kernel, by decide +kernel, by decide +kernel⟩, ⟨h, by show 8 + (3 + 11) + 36 * 0 ≤ 36 * lv; omega⟩⟩
theorem q_kJ6_265 : Jvm.Cond.constant RJ6 265 (1431655765) ∈ z_tb := z_in 334 (by decide +kernel)
theorem q_kJ6_266 : Jvm.Cond.constant RJ6 266 (858993459) ∈ z_tb := z_in 335 (by decide +kernel)
theorem q_kJ6_267 : Jvm.Cond.constant RJ6 267 (252645135) ∈ z_tb := z_in 336 (by decide +kernel)
theorem q_kX6_206 : Jvm.Cond.constantLong RX6 206 (1000) ∈ z_tb := z_in 447 (by decide +kernel)
theorem q_kX6_240 : Jvm.Cond.constantLong RX6 240 (6364136223846793005) ∈ z_tb := z_in 536 (by decide +kernel)
theorem q_kX6_242 : Jvm.Cond.constantLong RX6 242 (1442695040888963407) ∈ z_tb := z_in 537 (by decide +kernel)
theorem q_kX7_68 : Jvm.Cond.constantLong RX7 68 (255) ∈ z_tb := z_in 665 (by decide +kernel)
theorem q_kX7_117 : Jvm.Cond.constantLong RX7 117 (5) ∈ z_tb := z_in 712 (by decide +kernel)
theorem q_kX7_162 : Jvm.Cond.constantLong RX7 162 (9) ∈ z_tb := z_in 751 (by decide +kernel)
theorem q_kX7_172 : Jvm.Cond.constantLong RX7 172 (20) ∈ z_tb := z_in 776 (by decide +kernel)
theorem q_kX7_185 : Jvm.Cond.constantLong RX7 185 (4) ∈ z_tb := z_in 817 (by decide +kernel)
theorem q_kX7_183 : Jvm.Cond.constantLong RX7 183 (1000) ∈ z_tb := z_in 821 (by decide +kernel)
theorem q_kX7_194 : Jvm.Cond.constantLong RX7 194 (12) ∈ z_tb := z_in 830 (by decide +kernel)
theorem q_kX7_216 : Jvm.Cond.constantLong RX7 216 (10) ∈ z_tb := z_in 869 (by decide +kernel)
theorem q_kX7_225 : Jvm.Cond.constantLong RX7 225 (30) ∈ z_tb := z_in 881 (by decide +kernel)
theorem q_kX7_227 : Jvm.Cond.constantLong RX7 227 (6364136223846793005) ∈ z_tb := z_in 882 (by decide +kernel)
theorem q_kX7_229 : Jvm.Cond.constantLong RX7 229 (1442695040888963407) ∈ z_tb := z_in 883 (by decide +kernel)
theorem q_kX7_231 : Jvm.Cond.constantLong RX7 231 (32) ∈ z_tb := z_in 884 (by decide +kernel)
theorem q_kL_85 : Jvm.Cond.constantLong RL 85 (4294967295) ∈ z_tb := z_in 901 (by decide +kernel)
theorem z_s0 : z_shp[0]? = some (.inr (.inl (6, [3, 5, 14, 16, 18, 20, 50, 55, 56, 59, 60, 1]))) := rfl
theorem z_s1 : z_shp[1]? = some (.inr (.inl (3, [4, 0]))) := rfl
theorem z_s2 : z_shp[2]? = some (.inl (0, 60)) := rfl
theorem z_s3 : z_shp[3]? = some (.inr (.inl (4, [0, 6, 7, 8, 9, 0, 10, 11, 0, 12, 13]))) := rfl
theorem z_s4 : z_shp[4]? = some (.inl (0, 7)) := rfl
theorem z_s5 : z_shp[5]? = some (.inl (0, 7)) := rfl
theorem z_s6 : z_shp[6]? = some (.inl (0, 7)) := rfl
theorem z_s7 : z_shp[7]? = some (.inl (0, 7)) := rfl
theorem z_s8 : z_shp[8]? = some (.inl (0, 4)) := rfl
theorem z_s9 : z_shp[9]? = some (.inl (0, 4)) := rfl
theorem z_s10 : z_shp[10]? = some (.inl (0, 3)) := rfl
theorem z_s11 : z_shp[11]? = some (.inl (0, 3)) := rfl
theorem z_s12 : z_shp[12]? = some (.inr (.inl (1, [5, 15]))) := rfl
theorem z_s13 : z_shp[13]? = some (.inl (0, 6)) := rfl
theorem z_s14 : z_shp[14]? = some (.inr (.inl (2, [0, 17, 0]))) := rfl
theorem z_s15 : z_shp[15]? = some (.inl (0, 7)) := rfl
theorem z_s16 : z_shp[16]? = some (.inr (.inl (2, [0, 19, 0]))) := rfl
theorem z_s17 : z_shp[17]? = some (.inl (0, 7)) := rfl
theorem z_s18 : z_shp[18]? = some (.inr (.inl (0, [21, 0, 0]))) := rfl
theorem z_s19 : z_shp[19]? = some (.inr (.inr [20, 22, 24, 26, 28, 30, 32, 34, 36, 38, 40, 42, 44, 46])) := rfl
theorem z_s20 : z_shp[20]? = some (.inr (.inl (2, [0, 23, 0]))) := rfl
theorem z_s21 : z_shp[21]? = some (.inl (0, 7)) := rfl
theorem z_s22 : z_shp[22]? = some (.inr (.inl (2, [0, 25, 0]))) := rfl
theorem z_s23 : z_shp[23]? = some (.inl (0, 7)) := rfl
theorem z_s24 : z_shp[24]? = some (.inr (.inl (2, [0, 27, 0]))) := rfl
theorem z_s25 : z_shp[25]? = some (.inl (0, 7)) := rfl
theorem z_s26 : z_shp[26]? = some (.inr (.inl (2, [0, 29, 0]))) := rfl
theorem z_s27 : z_shp[27]? = some (.inl (0, 7)) := rfl
theorem z_s28 : z_shp[28]? = some (.inr (.inl (2, [0, 31, 0]))) := rfl
theorem z_s29 : z_shp[29]? = some (.inl (0, 7)) := rfl
theorem z_s30 : z_shp[30]? = some (.inr (.inl (2, [0, 33, 0]))) := rfl
theorem z_s31 : z_shp[31]? = some (.inl (0, 7)) := rfl
theorem z_s32 : z_shp[32]? = some (.inr (.inl (2, [0, 35, 0]))) := rfl
theorem z_s33 : z_shp[33]? = some (.inl (0, 7)) := rfl
theorem z_s34 : z_shp[34]? = some (.inr (.inl (2, [0, 37, 0]))) := rfl
theorem z_s35 : z_shp[35]? = some (.inl (0, 7)) := rfl
theorem z_s36 : z_shp[36]? = some (.inr (.inl (2, [0, 39, 0]))) := rfl
theorem z_s37 : z_shp[37]? = some (.inl (0, 7)) := rfl
theorem z_s38 : z_shp[38]? = some (.inr (.inl (2, [0, 41, 0]))) := rfl
theorem z_s39 : z_shp[39]? = some (.inl (0, 7)) := rfl
theorem z_s40 : z_shp[40]? = some (.inr (.inl (2, [0, 43, 0]))) := rfl
theorem z_s41 : z_shp[41]? = some (.inl (0, 7)) := rfl
theorem z_s42 : z_shp[42]? = some (.inr (.inl (2, [0, 45, 0]))) := rfl
theorem z_s43 : z_shp[43]? = some (.inl (0, 7)) := rfl
theorem z_s44 : z_shp[44]? = some (.inr (.inl (2, [0, 47, 0]))) := rfl
theorem z_s45 : z_shp[45]? = some (.inl (0, 7)) := rfl
theorem z_s46 : z_shp[46]? = some (.inr (.inl (2, [0, 49, 0]))) := rfl
theorem z_s47 : z_shp[47]? = some (.inl (0, 7)) := rfl
theorem z_s48 : z_shp[48]? = some (.inr (.inr [49, 51])) := rfl
theorem z_s49 : z_shp[49]? = some (.inr (.inl (2, [0, 52, 0]))) := rfl
theorem z_s50 : z_shp[50]? = some (.inl (0, 7)) := rfl
theorem z_s51 : z_shp[51]? = some (.inr (.inl (2, [0, 54, 0]))) := rfl
theorem z_s52 : z_shp[52]? = some (.inl (0, 7)) := rfl
theorem z_s53 : z_shp[53]? = some (.inl (1, 2)) := rfl
theorem z_s54 : z_shp[54]? = some (.inr (.inl (5, [57, 58, 0]))) := rfl
theorem z_s55 : z_shp[55]? = some (.inl (0, 6)) := rfl
theorem z_s56 : z_shp[56]? = some (.inl (1, 6)) := rfl
theorem z_s57 : z_shp[57]? = some (.inl (0, 9)) := rfl
theorem z_s58 : z_shp[58]? = some (.inl (0, 9)) := rfl
theorem z_s59 : z_shp[59]? = some (.inr (.inl (7, [0, 0, 0, 62, 63, 64, 65, 66, 67, 68, 69, 70, 71, 72, 73, 0, 0, 0, 74, 0, 0, 0, 75, 0, 0, 76, 0, 77, 78, 1, 79, 80]))) := rfl
theorem z_s60 : z_shp[60]? = some (.inl (0, 7)) := rfl
theorem z_s61 : z_shp[61]? = some (.inl (0, 7)) := rfl
theorem z_s62 : z_shp[62]? = some (.inl (0, 7)) := rfl
theorem z_s63 : z_shp[63]? = some (.inl (0, 7)) := rfl
theorem z_s64 : z_shp[64]? = some (.inl (0, 4)) := rfl
theorem z_s65 : z_shp[65]? = some (.inl (0, 4)) := rfl
theorem z_s66 : z_shp[66]? = some (.inl (0, 3)) := rfl
theorem z_s67 : z_shp[67]? = some (.inl (0, 3)) := rfl
theorem z_s68 : z_shp[68]? = some (.inl (0, 18)) := rfl
theorem z_s69 : z_shp[69]? = some (.inl (0, 28)) := rfl
theorem z_s70 : z_shp[70]? = some (.inl (0, 8)) := rfl
theorem z_s71 : z_shp[71]? = some (.inl (0, 6)) := rfl
theorem z_s72 : z_shp[72]? = some (.inl (0, 60)) := rfl
theorem z_s73 : z_shp[73]? = some (.inl (0, 6)) := rfl
theorem z_s74 : z_shp[74]? = some (.inl (0, 126)) := rfl
theorem z_s75 : z_shp[75]? = some (.inl (0, 6)) := rfl
theorem z_s76 : z_shp[76]? = some (.inl (0, 6)) := rfl
theorem z_s77 : z_shp[77]? = some (.inl (1, 2)) := rfl
theorem z_s78 : z_shp[78]? = some (.inl (0, 18)) := rfl
end
section
theorem dX0_forget_0 : decode cX0_forget 0 = .ok (.aload_n 0, 1) := by decide +kernel
theorem dX0_forget_1 : decode cX0_forget 1 = .ok (.iconst 0, 1) := by decide +kernel
theorem dX0_forget_2 : decode cX0_forget 2 = .ok (.putfield 21, 3) := by decide +kernel
theorem dX0_forget_5 : decode cX0_forget 5 = .ok (.return_, 1) := by decide +kernel
theorem dX0_remember_0 : decode cX0_remember 0 = .ok (.aload_n 0, 1) := by decide +kernel
theorem dX0_remember_1 : decode cX0_remember 1 = .ok (.getfield 11, 3) := by decide +kernel
theorem dX0_remember_4 : decode cX0_remember 4 = .ok (.aload_n 0, 1) := by decide +kernel
theorem dX0_remember_5 : decode cX0_remember 5 = .ok (.getfield 17, 3) := by decide +kernel
theorem dX0_remember_8 : decode cX0_remember 8 = .ok (.aaload, 1) := by decide +kernel
theorem dX0_remember_9 : decode cX0_remember 9 = .ok (.aload_n 1, 1) := by decide +kernel
theorem dX0_remember_10 : decode cX0_remember 10 = .ok (.invokevirtual 25, 3) := by decide +kernel
theorem dX0_remember_13 : decode cX0_remember 13 = .ok (.aload_n 0, 1) := by decide +kernel
theorem dX0_remember_14 : decode cX0_remember 14 = .ok (.aload_n 0, 1) := by decide +kernel
theorem dX0_remember_15 : decode cX0_remember 15 = .ok (.getfield 17, 3) := by decide +kernel
theorem dX0_remember_18 : decode cX0_remember 18 = .ok (.iconst 1, 1) := by decide +kernel
theorem dX0_remember_19 : decode cX0_remember 19 = .ok (.iadd, 1) := by decide +kernel
theorem dX0_remember_20 : decode cX0_remember 20 = .ok (.bipush 14, 2) := by decide +kernel
theorem dX0_remember_22 : decode cX0_remember 22 = .ok (.irem, 1) := by decide +kernel
theorem dX0_remember_23 : decode cX0_remember 23 = .ok (.putfield 17, 3) := by decide +kernel
theorem dX0_remember_26 : decode cX0_remember 26 = .ok (.aload_n 0, 1) := by decide +kernel
theorem dX0_remember_27 : decode cX0_remember 27 = .ok (.bipush 14, 2) := by decide +kernel
theorem dX0_remember_29 : decode cX0_remember 29 = .ok (.aload_n 0, 1) := by decide +kernel
theorem dX0_remember_30 : decode cX0_remember 30 = .ok (.getfield 21, 3) := by decide +kernel
theorem dX0_remember_33 : decode cX0_remember 33 = .ok (.iconst 1, 1) := by decide +kernel
theorem dX0_remember_34 : decode cX0_remember 34 = .ok (.iadd, 1) := by decide +kernel
theorem dX0_remember_35 : decode cX0_remember 35 = .ok (.invokestatic 29, 3) := by decide +kernel
theorem dX0_remember_38 : decode cX0_remember 38 = .ok (.putfield 21, 3) := by decide +kernel
theorem dX0_remember_41 : decode cX0_remember 41 = .ok (.return_, 1) := by decide +kernel
theorem dX0_takeBack_0 : decode cX0_takeBack 0 = .ok (.aload_n 0, 1) := by decide +kernel
theorem dX0_takeBack_1 : decode cX0_takeBack 1 = .ok (.getfield 21, 3) := by decide +kernel
theorem dX0_takeBack_4 : decode cX0_takeBack 4 = .ok (.ifCond .le 42, 3) := by decide +kernel
theorem dX0_takeBack_7 : decode cX0_takeBack 7 = .ok (.aload_n 0, 1) := by decide +kernel
theorem dX0_takeBack_8 : decode cX0_takeBack 8 = .ok (.aload_n 0, 1) := by decide +kernel
theorem dX0_takeBack_9 : decode cX0_takeBack 9 = .ok (.getfield 17, 3) := by decide +kernel
theorem dX0_takeBack_12 : decode cX0_takeBack 12 = .ok (.bipush 14, 2) := by decide +kernel
theorem dX0_takeBack_14 : decode cX0_takeBack 14 = .ok (.iadd, 1) := by decide +kernel
theorem dX0_takeBack_15 : decode cX0_takeBack 15 = .ok (.iconst 1, 1) := by decide +kernel
theorem dX0_takeBack_16 : decode cX0_takeBack 16 = .ok (.isub, 1) := by decide +kernel
theorem dX0_takeBack_17 : decode cX0_takeBack 17 = .ok (.bipush 14, 2) := by decide +kernel
theorem dX0_takeBack_19 : decode cX0_takeBack 19 = .ok (.irem, 1) := by decide +kernel
theorem dX0_takeBack_20 : decode cX0_takeBack 20 = .ok (.putfield 17, 3) := by decide +kernel
theorem dX0_takeBack_23 : decode cX0_takeBack 23 = .ok (.aload_n 1, 1) := by decide +kernel
theorem dX0_takeBack_24 : decode cX0_takeBack 24 = .ok (.aload_n 0, 1) := by decide +kernel
theorem dX0_takeBack_25 : decode cX0_takeBack 25 = .ok (.getfield 11, 3) := by decide +kernel
theorem dX0_takeBack_28 : decode cX0_takeBack 28 = .ok (.aload_n 0, 1) := by decide +kernel
theorem dX0_takeBack_29 : decode cX0_takeBack 29 = .ok (.getfield 17, 3) := by decide +kernel
theorem dX0_takeBack_32 : decode cX0_takeBack 32 = .ok (.aaload, 1) := by decide +kernel
theorem dX0_takeBack_33 : decode cX0_takeBack 33 = .ok (.invokevirtual 25, 3) := by decide +kernel
theorem dX0_takeBack_36 : decode cX0_takeBack 36 = .ok (.aload_n 0, 1) := by decide +kernel
theorem dX0_takeBack_37 : decode cX0_takeBack 37 = .ok (.dup, 1) := by decide +kernel
theorem dX0_takeBack_38 : decode cX0_takeBack 38 = .ok (.getfield 21, 3) := by decide +kernel
theorem dX0_takeBack_41 : decode cX0_takeBack 41 = .ok (.iconst 1, 1) := by decide +kernel
theorem dX0_takeBack_42 : decode cX0_takeBack 42 = .ok (.isub, 1) := by decide +kernel
theorem dX0_takeBack_43 : decode cX0_takeBack 43 = .ok (.putfield 21, 3) := by decide +kernel
theorem dX0_takeBack_46 : decode cX0_takeBack 46 = .ok (.return_, 1) := by decide +kernel
theorem dX1_clear_0 : decode cX1_clear 0 = .ok (.iconst 0, 1) := by decide +kernel
theorem dX1_clear_1 : decode cX1_clear 1 = .ok (.istore_n 1, 1) := by decide +kernel
theorem dX1_clear_2 : decode cX1_clear 2 = .ok (.iload_n 1, 1) := by decide +kernel
theorem dX1_clear_3 : decode cX1_clear 3 = .ok (.bipush 6, 2) := by decide +kernel
theorem dX1_clear_5 : decode cX1_clear 5 = .ok (.if_icmp .ge 16, 3) := by decide +kernel
theorem dX1_clear_8 : decode cX1_clear 8 = .ok (.aload_n 0, 1) := by decide +kernel
theorem dX1_clear_9 : decode cX1_clear 9 = .ok (.getfield 9, 3) := by decide +kernel
theorem dX1_clear_12 : decode cX1_clear 12 = .ok (.iload_n 1, 1) := by decide +kernel
theorem dX1_clear_13 : decode cX1_clear 13 = .ok (.iconst 0, 1) := by decide +kernel
theorem dX1_clear_14 : decode cX1_clear 14 = .ok (.iastore, 1) := by decide +kernel
theorem dX1_clear_15 : decode cX1_clear 15 = .ok (.iinc 1 1, 3) := by decide +kernel
theorem dX1_clear_18 : decode cX1_clear 18 = .ok (.goto (-16), 3) := by decide +kernel
theorem dX1_clear_21 : decode cX1_clear 21 = .ok (.return_, 1) := by decide +kernel
theorem dX1_burden_0 : decode cX1_burden 0 = .ok (.aload_n 0, 1) := by decide +kernel
theorem dX1_burden_1 : decode cX1_burden 1 = .ok (.getfield 9, 3) := by decide +kernel
theorem dX1_burden_4 : decode cX1_burden 4 = .ok (.iload_n 1, 1) := by decide +kernel
theorem dX1_burden_5 : decode cX1_burden 5 = .ok (.dup2, 1) := by decide +kernel
theorem dX1_burden_6 : decode cX1_burden 6 = .ok (.iaload, 1) := by decide +kernel
theorem dX1_burden_7 : decode cX1_burden 7 = .ok (.iload_n 2, 1) := by decide +kernel
theorem dX1_burden_8 : decode cX1_burden 8 = .ok (.iadd, 1) := by decide +kernel
theorem dX1_burden_9 : decode cX1_burden 9 = .ok (.iastore, 1) := by decide +kernel
theorem dX1_burden_10 : decode cX1_burden 10 = .ok (.return_, 1) := by decide +kernel
theorem dX1_burdenEnds_0 : decode cX1_burdenEnds 0 = .ok (.aload_n 0, 1) := by decide +kernel
theorem dX1_burdenEnds_1 : decode cX1_burdenEnds 1 = .ok (.getfield 9, 3) := by decide +kernel
theorem dX1_burdenEnds_4 : decode cX1_burdenEnds 4 = .ok (.aload_n 0, 1) := by decide +kernel
theorem dX1_burdenEnds_5 : decode cX1_burdenEnds 5 = .ok (.getfield 15, 3) := by decide +kernel
theorem dX1_burdenEnds_8 : decode cX1_burdenEnds 8 = .ok (.getfield 19, 3) := by decide +kernel
theorem dX1_burdenEnds_11 : decode cX1_burdenEnds 11 = .ok (.iload_n 1, 1) := by decide +kernel
theorem dX1_burdenEnds_12 : decode cX1_burdenEnds 12 = .ok (.iaload, 1) := by decide +kernel
theorem dX1_burdenEnds_13 : decode cX1_burdenEnds 13 = .ok (.dup2, 1) := by decide +kernel
theorem dX1_burdenEnds_14 : decode cX1_burdenEnds 14 = .ok (.iaload, 1) := by decide +kernel
theorem dX1_burdenEnds_15 : decode cX1_burdenEnds 15 = .ok (.iconst 1, 1) := by decide +kernel
theorem dX1_burdenEnds_16 : decode cX1_burdenEnds 16 = .ok (.iadd, 1) := by decide +kernel
theorem dX1_burdenEnds_17 : decode cX1_burdenEnds 17 = .ok (.iastore, 1) := by decide +kernel
theorem dX1_burdenEnds_18 : decode cX1_burdenEnds 18 = .ok (.aload_n 0, 1) := by decide +kernel
theorem dX1_burdenEnds_19 : decode cX1_burdenEnds 19 = .ok (.getfield 9, 3) := by decide +kernel
theorem dX1_burdenEnds_22 : decode cX1_burdenEnds 22 = .ok (.aload_n 0, 1) := by decide +kernel
theorem dX1_burdenEnds_23 : decode cX1_burdenEnds 23 = .ok (.getfield 15, 3) := by decide +kernel
theorem dX1_burdenEnds_26 : decode cX1_burdenEnds 26 = .ok (.getfield 24, 3) := by decide +kernel
theorem dX1_burdenEnds_29 : decode cX1_burdenEnds 29 = .ok (.iload_n 1, 1) := by decide +kernel
theorem dX1_burdenEnds_30 : decode cX1_burdenEnds 30 = .ok (.iaload, 1) := by decide +kernel
theorem dX1_burdenEnds_31 : decode cX1_burdenEnds 31 = .ok (.dup2, 1) := by decide +kernel
theorem dX1_burdenEnds_32 : decode cX1_burdenEnds 32 = .ok (.iaload, 1) := by decide +kernel
theorem dX1_burdenEnds_33 : decode cX1_burdenEnds 33 = .ok (.iconst 1, 1) := by decide +kernel
theorem dX1_burdenEnds_34 : decode cX1_burdenEnds 34 = .ok (.iadd, 1) := by decide +kernel
theorem dX1_burdenEnds_35 : decode cX1_burdenEnds 35 = .ok (.iastore, 1) := by decide +kernel
theorem dX1_burdenEnds_36 : decode cX1_burdenEnds 36 = .ok (.return_, 1) := by decide +kernel
theorem dX1_loadOf_0 : decode cX1_loadOf 0 = .ok (.aload_n 0, 1) := by decide +kernel
theorem dX1_loadOf_1 : decode cX1_loadOf 1 = .ok (.getfield 9, 3) := by decide +kernel
theorem dX1_loadOf_4 : decode cX1_loadOf 4 = .ok (.aload_n 0, 1) := by decide +kernel
theorem dX1_loadOf_5 : decode cX1_loadOf 5 = .ok (.getfield 15, 3) := by decide +kernel
theorem dX1_loadOf_8 : decode cX1_loadOf 8 = .ok (.getfield 19, 3) := by decide +kernel
theorem dX1_loadOf_11 : decode cX1_loadOf 11 = .ok (.iload_n 1, 1) := by decide +kernel
theorem dX1_loadOf_12 : decode cX1_loadOf 12 = .ok (.iaload, 1) := by decide +kernel
theorem dX1_loadOf_13 : decode cX1_loadOf 13 = .ok (.iaload, 1) := by decide +kernel
theorem dX1_loadOf_14 : decode cX1_loadOf 14 = .ok (.aload_n 0, 1) := by decide +kernel
theorem dX1_loadOf_15 : decode cX1_loadOf 15 = .ok (.getfield 9, 3) := by decide +kernel
theorem dX1_loadOf_18 : decode cX1_loadOf 18 = .ok (.aload_n 0, 1) := by decide +kernel
theorem dX1_loadOf_19 : decode cX1_loadOf 19 = .ok (.getfield 15, 3) := by decide +kernel
theorem dX1_loadOf_22 : decode cX1_loadOf 22 = .ok (.getfield 24, 3) := by decide +kernel
theorem dX1_loadOf_25 : decode cX1_loadOf 25 = .ok (.iload_n 1, 1) := by decide +kernel
theorem dX1_loadOf_26 : decode cX1_loadOf 26 = .ok (.iaload, 1) := by decide +kernel
theorem dX1_loadOf_27 : decode cX1_loadOf 27 = .ok (.iaload, 1) := by decide +kernel
theorem dX1_loadOf_28 : decode cX1_loadOf 28 = .ok (.iadd, 1) := by decide +kernel
theorem dX1_loadOf_29 : decode cX1_loadOf 29 = .ok (.ireturn, 1) := by decide +kernel
theorem dX1_ping_0 : decode cX1_ping 0 = .ok (.aload_n 1, 1) := by decide +kernel
theorem dX1_ping_1 : decode cX1_ping 1 = .ok (.getfield 27, 3) := by decide +kernel
theorem dX1_ping_4 : decode cX1_ping 4 = .ok (.invokestatic 33, 3) := by decide +kernel
theorem dX1_ping_7 : decode cX1_ping 7 = .ok (.istore_n 2, 1) := by decide +kernel
theorem dX1_ping_8 : decode cX1_ping 8 = .ok (.iconst 0, 1) := by decide +kernel
theorem dX1_ping_9 : decode cX1_ping 9 = .ok (.istore_n 3, 1) := by decide +kernel
theorem dX1_ping_10 : decode cX1_ping 10 = .ok (.iload_n 3, 1) := by decide +kernel
theorem dX1_ping_11 : decode cX1_ping 11 = .ok (.aload_n 0, 1) := by decide +kernel
theorem dX1_ping_12 : decode cX1_ping 12 = .ok (.getfield 15, 3) := by decide +kernel
theorem dX1_ping_15 : decode cX1_ping 15 = .ok (.getfield 39, 3) := by decide +kernel
theorem dX1_ping_18 : decode cX1_ping 18 = .ok (.if_icmp .gt 64, 3) := by decide +kernel
theorem dX1_ping_21 : decode cX1_ping 21 = .ok (.aload_n 0, 1) := by decide +kernel
theorem dX1_ping_22 : decode cX1_ping 22 = .ok (.aload_n 1, 1) := by decide +kernel
theorem dX1_ping_23 : decode cX1_ping 23 = .ok (.invokevirtual 42, 3) := by decide +kernel
theorem dX1_ping_26 : decode cX1_ping 26 = .ok (.istore 4, 2) := by decide +kernel
theorem dX1_ping_28 : decode cX1_ping 28 = .ok (.aload_n 1, 1) := by decide +kernel
theorem dX1_ping_29 : decode cX1_ping 29 = .ok (.dup, 1) := by decide +kernel
theorem dX1_ping_30 : decode cX1_ping 30 = .ok (.getfield 27, 3) := by decide +kernel
theorem dX1_ping_33 : decode cX1_ping 33 = .ok (.iload 4, 2) := by decide +kernel
theorem dX1_ping_35 : decode cX1_ping 35 = .ok (.ior, 1) := by decide +kernel
theorem dX1_ping_36 : decode cX1_ping 36 = .ok (.putfield 27, 3) := by decide +kernel
theorem dX1_ping_39 : decode cX1_ping 39 = .ok (.iconst 0, 1) := by decide +kernel
theorem dX1_ping_40 : decode cX1_ping 40 = .ok (.istore 5, 2) := by decide +kernel
theorem dX1_ping_42 : decode cX1_ping 42 = .ok (.iload 5, 2) := by decide +kernel
theorem dX1_ping_44 : decode cX1_ping 44 = .ok (.aload_n 0, 1) := by decide +kernel
theorem dX1_ping_45 : decode cX1_ping 45 = .ok (.getfield 15, 3) := by decide +kernel
theorem dX1_ping_48 : decode cX1_ping 48 = .ok (.getfield 39, 3) := by decide +kernel
theorem dX1_ping_51 : decode cX1_ping 51 = .ok (.if_icmp .ge 25, 3) := by decide +kernel
theorem dX1_ping_54 : decode cX1_ping 54 = .ok (.iload 4, 2) := by decide +kernel
theorem dX1_ping_56 : decode cX1_ping 56 = .ok (.iconst 1, 1) := by decide +kernel
theorem dX1_ping_57 : decode cX1_ping 57 = .ok (.iload 5, 2) := by decide +kernel
theorem dX1_ping_59 : decode cX1_ping 59 = .ok (.ishl, 1) := by decide +kernel
theorem dX1_ping_60 : decode cX1_ping 60 = .ok (.iand, 1) := by decide +kernel
theorem dX1_ping_61 : decode cX1_ping 61 = .ok (.ifCond .eq 9, 3) := by decide +kernel
theorem dX1_ping_64 : decode cX1_ping 64 = .ok (.aload_n 0, 1) := by decide +kernel
theorem dX1_ping_65 : decode cX1_ping 65 = .ok (.iload 5, 2) := by decide +kernel
theorem dX1_ping_67 : decode cX1_ping 67 = .ok (.invokevirtual 46, 3) := by decide +kernel
theorem dX1_ping_70 : decode cX1_ping 70 = .ok (.iinc 5 1, 3) := by decide +kernel
theorem dX1_ping_73 : decode cX1_ping 73 = .ok (.goto (-31), 3) := by decide +kernel
theorem dX1_ping_76 : decode cX1_ping 76 = .ok (.iinc 3 1, 3) := by decide +kernel
theorem dX1_ping_79 : decode cX1_ping 79 = .ok (.goto (-69), 3) := by decide +kernel
theorem dX1_ping_82 : decode cX1_ping 82 = .ok (.aload_n 1, 1) := by decide +kernel
theorem dX1_ping_83 : decode cX1_ping 83 = .ok (.getfield 27, 3) := by decide +kernel
theorem dX1_ping_86 : decode cX1_ping 86 = .ok (.invokestatic 33, 3) := by decide +kernel
theorem dX1_ping_89 : decode cX1_ping 89 = .ok (.iload_n 2, 1) := by decide +kernel
theorem dX1_ping_90 : decode cX1_ping 90 = .ok (.isub, 1) := by decide +kernel
theorem dX1_ping_91 : decode cX1_ping 91 = .ok (.ireturn, 1) := by decide +kernel
theorem dX1_givingNow_0 : decode cX1_givingNow 0 = .ok (.iconst 0, 1) := by decide +kernel
theorem dX1_givingNow_1 : decode cX1_givingNow 1 = .ok (.istore_n 2, 1) := by decide +kernel
theorem dX1_givingNow_2 : decode cX1_givingNow 2 = .ok (.iconst 0, 1) := by decide +kernel
theorem dX1_givingNow_3 : decode cX1_givingNow 3 = .ok (.istore_n 3, 1) := by decide +kernel
theorem dX1_givingNow_4 : decode cX1_givingNow 4 = .ok (.iload_n 3, 1) := by decide +kernel
theorem dX1_givingNow_5 : decode cX1_givingNow 5 = .ok (.aload_n 0, 1) := by decide +kernel
theorem dX1_givingNow_6 : decode cX1_givingNow 6 = .ok (.getfield 15, 3) := by decide +kernel
theorem dX1_givingNow_9 : decode cX1_givingNow 9 = .ok (.getfield 39, 3) := by decide +kernel
theorem dX1_givingNow_12 : decode cX1_givingNow 12 = .ok (.if_icmp .ge 45, 3) := by decide +kernel
theorem dX1_givingNow_15 : decode cX1_givingNow 15 = .ok (.aload_n 1, 1) := by decide +kernel
theorem dX1_givingNow_16 : decode cX1_givingNow 16 = .ok (.iload_n 3, 1) := by decide +kernel
theorem dX1_givingNow_17 : decode cX1_givingNow 17 = .ok (.invokevirtual 50, 3) := by decide +kernel
theorem dX1_givingNow_20 : decode cX1_givingNow 20 = .ok (.ifCond .ne 31, 3) := by decide +kernel
theorem dX1_givingNow_23 : decode cX1_givingNow 23 = .ok (.aload_n 0, 1) := by decide +kernel
theorem dX1_givingNow_24 : decode cX1_givingNow 24 = .ok (.iload_n 3, 1) := by decide +kernel
theorem dX1_givingNow_25 : decode cX1_givingNow 25 = .ok (.invokevirtual 54, 3) := by decide +kernel
theorem dX1_givingNow_28 : decode cX1_givingNow 28 = .ok (.aload_n 0, 1) := by decide +kernel
theorem dX1_givingNow_29 : decode cX1_givingNow 29 = .ok (.getfield 15, 3) := by decide +kernel
theorem dX1_givingNow_32 : decode cX1_givingNow 32 = .ok (.iload_n 3, 1) := by decide +kernel
theorem dX1_givingNow_33 : decode cX1_givingNow 33 = .ok (.aload_n 1, 1) := by decide +kernel
theorem dX1_givingNow_34 : decode cX1_givingNow 34 = .ok (.getfield 57, 3) := by decide +kernel
theorem dX1_givingNow_37 : decode cX1_givingNow 37 = .ok (.iload_n 3, 1) := by decide +kernel
theorem dX1_givingNow_38 : decode cX1_givingNow 38 = .ok (.iaload, 1) := by decide +kernel
theorem dX1_givingNow_39 : decode cX1_givingNow 39 = .ok (.invokevirtual 60, 3) := by decide +kernel
theorem dX1_givingNow_42 : decode cX1_givingNow 42 = .ok (.if_icmp .le 9, 3) := by decide +kernel
theorem dX1_givingNow_45 : decode cX1_givingNow 45 = .ok (.iload_n 2, 1) := by decide +kernel
theorem dX1_givingNow_46 : decode cX1_givingNow 46 = .ok (.iconst 1, 1) := by decide +kernel
theorem dX1_givingNow_47 : decode cX1_givingNow 47 = .ok (.iload_n 3, 1) := by decide +kernel
theorem dX1_givingNow_48 : decode cX1_givingNow 48 = .ok (.ishl, 1) := by decide +kernel
theorem dX1_givingNow_49 : decode cX1_givingNow 49 = .ok (.ior, 1) := by decide +kernel
theorem dX1_givingNow_50 : decode cX1_givingNow 50 = .ok (.istore_n 2, 1) := by decide +kernel
theorem dX1_givingNow_51 : decode cX1_givingNow 51 = .ok (.iinc 3 1, 3) := by decide +kernel
theorem dX1_givingNow_54 : decode cX1_givingNow 54 = .ok (.goto (-50), 3) := by decide +kernel
theorem dX1_givingNow_57 : decode cX1_givingNow 57 = .ok (.iload_n 2, 1) := by decide +kernel
theorem dX1_givingNow_58 : decode cX1_givingNow 58 = .ok (.ireturn, 1) := by decide +kernel
theorem dX1_pullAt_0 : decode cX1_pullAt 0 = .ok (.aload_n 0, 1) := by decide +kernel
theorem dX1_pullAt_1 : decode cX1_pullAt 1 = .ok (.invokevirtual 64, 3) := by decide +kernel
theorem dX1_pullAt_4 : decode cX1_pullAt 4 = .ok (.aload_n 0, 1) := by decide +kernel
theorem dX1_pullAt_5 : decode cX1_pullAt 5 = .ok (.iload_n 2, 1) := by decide +kernel
theorem dX1_pullAt_6 : decode cX1_pullAt 6 = .ok (.iload_n 3, 1) := by decide +kernel
theorem dX1_pullAt_7 : decode cX1_pullAt 7 = .ok (.invokevirtual 67, 3) := by decide +kernel
theorem dX1_pullAt_10 : decode cX1_pullAt 10 = .ok (.aload_n 0, 1) := by decide +kernel
theorem dX1_pullAt_11 : decode cX1_pullAt 11 = .ok (.aload_n 1, 1) := by decide +kernel
theorem dX1_pullAt_12 : decode cX1_pullAt 12 = .ok (.invokevirtual 71, 3) := by decide +kernel
theorem dX1_pullAt_15 : decode cX1_pullAt 15 = .ok (.ireturn, 1) := by decide +kernel
theorem dX1_passDay_0 : decode cX1_passDay 0 = .ok (.aload_n 0, 1) := by decide +kernel
theorem dX1_passDay_1 : decode cX1_passDay 1 = .ok (.aload_n 1, 1) := by decide +kernel
theorem dX1_passDay_2 : decode cX1_passDay 2 = .ok (.invokevirtual 74, 3) := by decide +kernel
theorem dX1_passDay_5 : decode cX1_passDay 5 = .ok (.aload_n 0, 1) := by decide +kernel
theorem dX1_passDay_6 : decode cX1_passDay 6 = .ok (.invokevirtual 64, 3) := by decide +kernel
theorem dX1_passDay_9 : decode cX1_passDay 9 = .ok (.aload_n 0, 1) := by decide +kernel
theorem dX1_passDay_10 : decode cX1_passDay 10 = .ok (.getfield 15, 3) := by decide +kernel
theorem dX1_passDay_13 : decode cX1_passDay 13 = .ok (.getfield 78, 3) := by decide +kernel
theorem dX1_passDay_16 : decode cX1_passDay 16 = .ok (.ifCond .le 40, 3) := by decide +kernel
theorem dX1_passDay_19 : decode cX1_passDay 19 = .ok (.aload_n 1, 1) := by decide +kernel
theorem dX1_passDay_20 : decode cX1_passDay 20 = .ok (.getfield 81, 3) := by decide +kernel
theorem dX1_passDay_23 : decode cX1_passDay 23 = .ok (.aload_n 0, 1) := by decide +kernel
theorem dX1_passDay_24 : decode cX1_passDay 24 = .ok (.getfield 15, 3) := by decide +kernel
theorem dX1_passDay_27 : decode cX1_passDay 27 = .ok (.getfield 78, 3) := by decide +kernel
theorem dX1_passDay_30 : decode cX1_passDay 30 = .ok (.invokestatic 84, 3) := by decide +kernel
theorem dX1_passDay_33 : decode cX1_passDay 33 = .ok (.istore_n 2, 1) := by decide +kernel
theorem dX1_passDay_34 : decode cX1_passDay 34 = .ok (.aload_n 0, 1) := by decide +kernel
theorem dX1_passDay_35 : decode cX1_passDay 35 = .ok (.aload_n 0, 1) := by decide +kernel
theorem dX1_passDay_36 : decode cX1_passDay 36 = .ok (.getfield 15, 3) := by decide +kernel
theorem dX1_passDay_39 : decode cX1_passDay 39 = .ok (.getfield 89, 3) := by decide +kernel
theorem dX1_passDay_42 : decode cX1_passDay 42 = .ok (.iload_n 2, 1) := by decide +kernel
theorem dX1_passDay_43 : decode cX1_passDay 43 = .ok (.iaload, 1) := by decide +kernel
theorem dX1_passDay_44 : decode cX1_passDay 44 = .ok (.aload_n 0, 1) := by decide +kernel
theorem dX1_passDay_45 : decode cX1_passDay 45 = .ok (.getfield 15, 3) := by decide +kernel
theorem dX1_passDay_48 : decode cX1_passDay 48 = .ok (.getfield 92, 3) := by decide +kernel
theorem dX1_passDay_51 : decode cX1_passDay 51 = .ok (.iload_n 2, 1) := by decide +kernel
theorem dX1_passDay_52 : decode cX1_passDay 52 = .ok (.iaload, 1) := by decide +kernel
theorem dX1_passDay_53 : decode cX1_passDay 53 = .ok (.invokevirtual 67, 3) := by decide +kernel
theorem dX1_passDay_56 : decode cX1_passDay 56 = .ok (.aload_n 0, 1) := by decide +kernel
theorem dX1_passDay_57 : decode cX1_passDay 57 = .ok (.aload_n 1, 1) := by decide +kernel
theorem dX1_passDay_58 : decode cX1_passDay 58 = .ok (.invokevirtual 71, 3) := by decide +kernel
theorem dX1_passDay_61 : decode cX1_passDay 61 = .ok (.istore_n 2, 1) := by decide +kernel
theorem dX1_passDay_62 : decode cX1_passDay 62 = .ok (.aload_n 0, 1) := by decide +kernel
theorem dX1_passDay_63 : decode cX1_passDay 63 = .ok (.aload_n 1, 1) := by decide +kernel
theorem dX1_passDay_64 : decode cX1_passDay 64 = .ok (.invokevirtual 95, 3) := by decide +kernel
theorem dX1_passDay_67 : decode cX1_passDay 67 = .ok (.aload_n 1, 1) := by decide +kernel
theorem dX1_passDay_68 : decode cX1_passDay 68 = .ok (.dup, 1) := by decide +kernel
theorem dX1_passDay_69 : decode cX1_passDay 69 = .ok (.getfield 81, 3) := by decide +kernel
theorem dX1_passDay_72 : decode cX1_passDay 72 = .ok (.iconst 1, 1) := by decide +kernel
theorem dX1_passDay_73 : decode cX1_passDay 73 = .ok (.iadd, 1) := by decide +kernel
theorem dX1_passDay_74 : decode cX1_passDay 74 = .ok (.putfield 81, 3) := by decide +kernel
theorem dX1_passDay_77 : decode cX1_passDay 77 = .ok (.iload_n 2, 1) := by decide +kernel
theorem dX1_passDay_78 : decode cX1_passDay 78 = .ok (.ireturn, 1) := by decide +kernel
theorem dX1_springShut_0 : decode cX1_springShut 0 = .ok (.iconst 0, 1) := by decide +kernel
theorem dX1_springShut_1 : decode cX1_springShut 1 = .ok (.istore_n 2, 1) := by decide +kernel
theorem dX1_springShut_2 : decode cX1_springShut 2 = .ok (.iload_n 2, 1) := by decide +kernel
theorem dX1_springShut_3 : decode cX1_springShut 3 = .ok (.aload_n 0, 1) := by decide +kernel
theorem dX1_springShut_4 : decode cX1_springShut 4 = .ok (.getfield 15, 3) := by decide +kernel
theorem dX1_springShut_7 : decode cX1_springShut 7 = .ok (.getfield 39, 3) := by decide +kernel
theorem dX1_springShut_10 : decode cX1_springShut 10 = .ok (.if_icmp .ge 36, 3) := by decide +kernel
theorem dX1_springShut_13 : decode cX1_springShut 13 = .ok (.aload_n 0, 1) := by decide +kernel
theorem dX1_springShut_14 : decode cX1_springShut 14 = .ok (.getfield 15, 3) := by decide +kernel
theorem dX1_springShut_17 : decode cX1_springShut 17 = .ok (.getfield 98, 3) := by decide +kernel
theorem dX1_springShut_20 : decode cX1_springShut 20 = .ok (.iload_n 2, 1) := by decide +kernel
theorem dX1_springShut_21 : decode cX1_springShut 21 = .ok (.iaload, 1) := by decide +kernel
theorem dX1_springShut_22 : decode cX1_springShut 22 = .ok (.iconst 3, 1) := by decide +kernel
theorem dX1_springShut_23 : decode cX1_springShut 23 = .ok (.if_icmp .ne 17, 3) := by decide +kernel
theorem dX1_springShut_26 : decode cX1_springShut 26 = .ok (.aload_n 1, 1) := by decide +kernel
theorem dX1_springShut_27 : decode cX1_springShut 27 = .ok (.dup, 1) := by decide +kernel
theorem dX1_springShut_28 : decode cX1_springShut 28 = .ok (.getfield 27, 3) := by decide +kernel
theorem dX1_springShut_31 : decode cX1_springShut 31 = .ok (.iconst 1, 1) := by decide +kernel
theorem dX1_springShut_32 : decode cX1_springShut 32 = .ok (.iload_n 2, 1) := by decide +kernel
theorem dX1_springShut_33 : decode cX1_springShut 33 = .ok (.ishl, 1) := by decide +kernel
theorem dX1_springShut_34 : decode cX1_springShut 34 = .ok (.iconst (-1), 1) := by decide +kernel
theorem dX1_springShut_35 : decode cX1_springShut 35 = .ok (.ixor, 1) := by decide +kernel
theorem dX1_springShut_36 : decode cX1_springShut 36 = .ok (.iand, 1) := by decide +kernel
theorem dX1_springShut_37 : decode cX1_springShut 37 = .ok (.putfield 27, 3) := by decide +kernel
theorem dX1_springShut_40 : decode cX1_springShut 40 = .ok (.iinc 2 1, 3) := by decide +kernel
theorem dX1_springShut_43 : decode cX1_springShut 43 = .ok (.goto (-41), 3) := by decide +kernel
theorem dX1_springShut_46 : decode cX1_springShut 46 = .ok (.return_, 1) := by decide +kernel
theorem dX1_wearDown_0 : decode cX1_wearDown 0 = .ok (.iconst 0, 1) := by decide +kernel
theorem dX1_wearDown_1 : decode cX1_wearDown 1 = .ok (.istore_n 2, 1) := by decide +kernel
theorem dX1_wearDown_2 : decode cX1_wearDown 2 = .ok (.iload_n 2, 1) := by decide +kernel
theorem dX1_wearDown_3 : decode cX1_wearDown 3 = .ok (.aload_n 0, 1) := by decide +kernel
theorem dX1_wearDown_4 : decode cX1_wearDown 4 = .ok (.getfield 15, 3) := by decide +kernel
theorem dX1_wearDown_7 : decode cX1_wearDown 7 = .ok (.getfield 39, 3) := by decide +kernel
theorem dX1_wearDown_10 : decode cX1_wearDown 10 = .ok (.if_icmp .ge 49, 3) := by decide +kernel
theorem dX1_wearDown_13 : decode cX1_wearDown 13 = .ok (.aload_n 0, 1) := by decide +kernel
theorem dX1_wearDown_14 : decode cX1_wearDown 14 = .ok (.getfield 15, 3) := by decide +kernel
theorem dX1_wearDown_17 : decode cX1_wearDown 17 = .ok (.getfield 98, 3) := by decide +kernel
theorem dX1_wearDown_20 : decode cX1_wearDown 20 = .ok (.iload_n 2, 1) := by decide +kernel
theorem dX1_wearDown_21 : decode cX1_wearDown 21 = .ok (.iaload, 1) := by decide +kernel
theorem dX1_wearDown_22 : decode cX1_wearDown 22 = .ok (.iconst 2, 1) := by decide +kernel
theorem dX1_wearDown_23 : decode cX1_wearDown 23 = .ok (.if_icmp .ne 30, 3) := by decide +kernel
theorem dX1_wearDown_26 : decode cX1_wearDown 26 = .ok (.aload_n 1, 1) := by decide +kernel
theorem dX1_wearDown_27 : decode cX1_wearDown 27 = .ok (.iload_n 2, 1) := by decide +kernel
theorem dX1_wearDown_28 : decode cX1_wearDown 28 = .ok (.invokevirtual 50, 3) := by decide +kernel
theorem dX1_wearDown_31 : decode cX1_wearDown 31 = .ok (.ifCond .ne 22, 3) := by decide +kernel
theorem dX1_wearDown_34 : decode cX1_wearDown 34 = .ok (.aload_n 0, 1) := by decide +kernel
theorem dX1_wearDown_35 : decode cX1_wearDown 35 = .ok (.iload_n 2, 1) := by decide +kernel
theorem dX1_wearDown_36 : decode cX1_wearDown 36 = .ok (.invokevirtual 54, 3) := by decide +kernel
theorem dX1_wearDown_39 : decode cX1_wearDown 39 = .ok (.iconst 1, 1) := by decide +kernel
theorem dX1_wearDown_40 : decode cX1_wearDown 40 = .ok (.if_icmp .lt 13, 3) := by decide +kernel
theorem dX1_wearDown_43 : decode cX1_wearDown 43 = .ok (.aload_n 1, 1) := by decide +kernel
theorem dX1_wearDown_44 : decode cX1_wearDown 44 = .ok (.getfield 57, 3) := by decide +kernel
theorem dX1_wearDown_47 : decode cX1_wearDown 47 = .ok (.iload_n 2, 1) := by decide +kernel
theorem dX1_wearDown_48 : decode cX1_wearDown 48 = .ok (.dup2, 1) := by decide +kernel
theorem dX1_wearDown_49 : decode cX1_wearDown 49 = .ok (.iaload, 1) := by decide +kernel
theorem dX1_wearDown_50 : decode cX1_wearDown 50 = .ok (.iconst 1, 1) := by decide +kernel
theorem dX1_wearDown_51 : decode cX1_wearDown 51 = .ok (.iadd, 1) := by decide +kernel
theorem dX1_wearDown_52 : decode cX1_wearDown 52 = .ok (.iastore, 1) := by decide +kernel
theorem dX1_wearDown_53 : decode cX1_wearDown 53 = .ok (.iinc 2 1, 3) := by decide +kernel
theorem dX1_wearDown_56 : decode cX1_wearDown 56 = .ok (.goto (-54), 3) := by decide +kernel
theorem dX1_wearDown_59 : decode cX1_wearDown 59 = .ok (.return_, 1) := by decide +kernel
theorem dX2_begin_0 : decode cX2_begin 0 = .ok (.aload_n 0, 1) := by decide +kernel
theorem dX2_begin_1 : decode cX2_begin 1 = .ok (.iconst 0, 1) := by decide +kernel
theorem dX2_begin_2 : decode cX2_begin 2 = .ok (.putfield 9, 3) := by decide +kernel
theorem dX2_begin_5 : decode cX2_begin 5 = .ok (.aload_n 0, 1) := by decide +kernel
theorem dX2_begin_6 : decode cX2_begin 6 = .ok (.iconst 0, 1) := by decide +kernel
theorem dX2_begin_7 : decode cX2_begin 7 = .ok (.putfield 19, 3) := by decide +kernel
theorem dX2_begin_10 : decode cX2_begin 10 = .ok (.iconst 0, 1) := by decide +kernel
theorem dX2_begin_11 : decode cX2_begin 11 = .ok (.istore_n 1, 1) := by decide +kernel
theorem dX2_begin_12 : decode cX2_begin 12 = .ok (.iload_n 1, 1) := by decide +kernel
theorem dX2_begin_13 : decode cX2_begin 13 = .ok (.bipush 7, 2) := by decide +kernel
theorem dX2_begin_15 : decode cX2_begin 15 = .ok (.if_icmp .ge 16, 3) := by decide +kernel
theorem dX2_begin_18 : decode cX2_begin 18 = .ok (.aload_n 0, 1) := by decide +kernel
theorem dX2_begin_19 : decode cX2_begin 19 = .ok (.getfield 15, 3) := by decide +kernel
theorem dX2_begin_22 : decode cX2_begin 22 = .ok (.iload_n 1, 1) := by decide +kernel
theorem dX2_begin_23 : decode cX2_begin 23 = .ok (.iconst 0, 1) := by decide +kernel
theorem dX2_begin_24 : decode cX2_begin 24 = .ok (.iastore, 1) := by decide +kernel
theorem dX2_begin_25 : decode cX2_begin 25 = .ok (.iinc 1 1, 3) := by decide +kernel
theorem dX2_begin_28 : decode cX2_begin 28 = .ok (.goto (-16), 3) := by decide +kernel
theorem dX2_begin_31 : decode cX2_begin 31 = .ok (.return_, 1) := by decide +kernel
theorem dX2_become_0 : decode cX2_become 0 = .ok (.aload_n 0, 1) := by decide +kernel
theorem dX2_become_1 : decode cX2_become 1 = .ok (.aload_n 1, 1) := by decide +kernel
theorem dX2_become_2 : decode cX2_become 2 = .ok (.getfield 9, 3) := by decide +kernel
theorem dX2_become_5 : decode cX2_become 5 = .ok (.putfield 9, 3) := by decide +kernel
theorem dX2_become_8 : decode cX2_become 8 = .ok (.aload_n 0, 1) := by decide +kernel
theorem dX2_become_9 : decode cX2_become 9 = .ok (.aload_n 1, 1) := by decide +kernel
theorem dX2_become_10 : decode cX2_become 10 = .ok (.getfield 19, 3) := by decide +kernel
theorem dX2_become_13 : decode cX2_become 13 = .ok (.putfield 19, 3) := by decide +kernel
theorem dX2_become_16 : decode cX2_become 16 = .ok (.iconst 0, 1) := by decide +kernel
theorem dX2_become_17 : decode cX2_become 17 = .ok (.istore_n 2, 1) := by decide +kernel
theorem dX2_become_18 : decode cX2_become 18 = .ok (.iload_n 2, 1) := by decide +kernel
theorem dX2_become_19 : decode cX2_become 19 = .ok (.bipush 7, 2) := by decide +kernel
theorem dX2_become_21 : decode cX2_become 21 = .ok (.if_icmp .ge 21, 3) := by decide +kernel
theorem dX2_become_24 : decode cX2_become 24 = .ok (.aload_n 0, 1) := by decide +kernel
theorem dX2_become_25 : decode cX2_become 25 = .ok (.getfield 15, 3) := by decide +kernel
theorem dX2_become_28 : decode cX2_become 28 = .ok (.iload_n 2, 1) := by decide +kernel
theorem dX2_become_29 : decode cX2_become 29 = .ok (.aload_n 1, 1) := by decide +kernel
theorem dX2_become_30 : decode cX2_become 30 = .ok (.getfield 15, 3) := by decide +kernel
theorem dX2_become_33 : decode cX2_become 33 = .ok (.iload_n 2, 1) := by decide +kernel
theorem dX2_become_34 : decode cX2_become 34 = .ok (.iaload, 1) := by decide +kernel
theorem dX2_become_35 : decode cX2_become 35 = .ok (.iastore, 1) := by decide +kernel
theorem dX2_become_36 : decode cX2_become 36 = .ok (.iinc 2 1, 3) := by decide +kernel
theorem dX2_become_39 : decode cX2_become 39 = .ok (.goto (-21), 3) := by decide +kernel
theorem dX2_become_42 : decode cX2_become 42 = .ok (.return_, 1) := by decide +kernel
theorem dX2_isOpen_0 : decode cX2_isOpen 0 = .ok (.aload_n 0, 1) := by decide +kernel
theorem dX2_isOpen_1 : decode cX2_isOpen 1 = .ok (.getfield 9, 3) := by decide +kernel
theorem dX2_isOpen_4 : decode cX2_isOpen 4 = .ok (.iconst 1, 1) := by decide +kernel
theorem dX2_isOpen_5 : decode cX2_isOpen 5 = .ok (.iload_n 1, 1) := by decide +kernel
theorem dX2_isOpen_6 : decode cX2_isOpen 6 = .ok (.ishl, 1) := by decide +kernel
theorem dX2_isOpen_7 : decode cX2_isOpen 7 = .ok (.iand, 1) := by decide +kernel
theorem dX2_isOpen_8 : decode cX2_isOpen 8 = .ok (.ifCond .eq 7, 3) := by decide +kernel
theorem dX2_isOpen_11 : decode cX2_isOpen 11 = .ok (.iconst 1, 1) := by decide +kernel
theorem dX2_isOpen_12 : decode cX2_isOpen 12 = .ok (.goto 4, 3) := by decide +kernel
theorem dX2_isOpen_15 : decode cX2_isOpen 15 = .ok (.iconst 0, 1) := by decide +kernel
theorem dX2_isOpen_16 : decode cX2_isOpen 16 = .ok (.ireturn, 1) := by decide +kernel
theorem dX2_close_0 : decode cX2_close 0 = .ok (.aload_n 0, 1) := by decide +kernel
theorem dX2_close_1 : decode cX2_close 1 = .ok (.dup, 1) := by decide +kernel
theorem dX2_close_2 : decode cX2_close 2 = .ok (.getfield 9, 3) := by decide +kernel
theorem dX2_close_5 : decode cX2_close 5 = .ok (.iconst 1, 1) := by decide +kernel
theorem dX2_close_6 : decode cX2_close 6 = .ok (.iload_n 1, 1) := by decide +kernel
theorem dX2_close_7 : decode cX2_close 7 = .ok (.ishl, 1) := by decide +kernel
theorem dX2_close_8 : decode cX2_close 8 = .ok (.iconst (-1), 1) := by decide +kernel
theorem dX2_close_9 : decode cX2_close 9 = .ok (.ixor, 1) := by decide +kernel
theorem dX2_close_10 : decode cX2_close 10 = .ok (.iand, 1) := by decide +kernel
theorem dX2_close_11 : decode cX2_close 11 = .ok (.putfield 9, 3) := by decide +kernel
theorem dX2_close_14 : decode cX2_close 14 = .ok (.aload_n 0, 1) := by decide +kernel
theorem dX2_close_15 : decode cX2_close 15 = .ok (.getfield 15, 3) := by decide +kernel
theorem dX2_close_18 : decode cX2_close 18 = .ok (.iload_n 1, 1) := by decide +kernel
theorem dX2_close_19 : decode cX2_close 19 = .ok (.iconst 0, 1) := by decide +kernel
theorem dX2_close_20 : decode cX2_close 20 = .ok (.iastore, 1) := by decide +kernel
theorem dX2_close_21 : decode cX2_close 21 = .ok (.return_, 1) := by decide +kernel
theorem dX2_unpin_0 : decode cX2_unpin 0 = .ok (.aload_n 0, 1) := by decide +kernel
theorem dX2_unpin_1 : decode cX2_unpin 1 = .ok (.dup, 1) := by decide +kernel
theorem dX2_unpin_2 : decode cX2_unpin 2 = .ok (.getfield 9, 3) := by decide +kernel
theorem dX2_unpin_5 : decode cX2_unpin 5 = .ok (.iconst 1, 1) := by decide +kernel
theorem dX2_unpin_6 : decode cX2_unpin 6 = .ok (.iload_n 1, 1) := by decide +kernel
theorem dX2_unpin_7 : decode cX2_unpin 7 = .ok (.ishl, 1) := by decide +kernel
theorem dX2_unpin_8 : decode cX2_unpin 8 = .ok (.ior, 1) := by decide +kernel
theorem dX2_unpin_9 : decode cX2_unpin 9 = .ok (.putfield 9, 3) := by decide +kernel
theorem dX2_unpin_12 : decode cX2_unpin 12 = .ok (.return_, 1) := by decide +kernel
theorem dX2_wearOfAll_0 : decode cX2_wearOfAll 0 = .ok (.iconst 0, 1) := by decide +kernel
theorem dX2_wearOfAll_1 : decode cX2_wearOfAll 1 = .ok (.istore_n 1, 1) := by decide +kernel
theorem dX2_wearOfAll_2 : decode cX2_wearOfAll 2 = .ok (.iconst 0, 1) := by decide +kernel
theorem dX2_wearOfAll_3 : decode cX2_wearOfAll 3 = .ok (.istore_n 2, 1) := by decide +kernel
theorem dX2_wearOfAll_4 : decode cX2_wearOfAll 4 = .ok (.iload_n 2, 1) := by decide +kernel
theorem dX2_wearOfAll_5 : decode cX2_wearOfAll 5 = .ok (.bipush 7, 2) := by decide +kernel
theorem dX2_wearOfAll_7 : decode cX2_wearOfAll 7 = .ok (.if_icmp .ge 18, 3) := by decide +kernel
theorem dX2_wearOfAll_10 : decode cX2_wearOfAll 10 = .ok (.iload_n 1, 1) := by decide +kernel
theorem dX2_wearOfAll_11 : decode cX2_wearOfAll 11 = .ok (.aload_n 0, 1) := by decide +kernel
theorem dX2_wearOfAll_12 : decode cX2_wearOfAll 12 = .ok (.getfield 15, 3) := by decide +kernel
theorem dX2_wearOfAll_15 : decode cX2_wearOfAll 15 = .ok (.iload_n 2, 1) := by decide +kernel
theorem dX2_wearOfAll_16 : decode cX2_wearOfAll 16 = .ok (.iaload, 1) := by decide +kernel
theorem dX2_wearOfAll_17 : decode cX2_wearOfAll 17 = .ok (.iadd, 1) := by decide +kernel
theorem dX2_wearOfAll_18 : decode cX2_wearOfAll 18 = .ok (.istore_n 1, 1) := by decide +kernel
theorem dX2_wearOfAll_19 : decode cX2_wearOfAll 19 = .ok (.iinc 2 1, 3) := by decide +kernel
theorem dX2_wearOfAll_22 : decode cX2_wearOfAll 22 = .ok (.goto (-18), 3) := by decide +kernel
theorem dX2_wearOfAll_25 : decode cX2_wearOfAll 25 = .ok (.iload_n 1, 1) := by decide +kernel
theorem dX2_wearOfAll_26 : decode cX2_wearOfAll 26 = .ok (.ireturn, 1) := by decide +kernel
theorem dX3_add_0 : decode cX3_add 0 = .ok (.aload_n 0, 1) := by decide +kernel
theorem dX3_add_1 : decode cX3_add 1 = .ok (.getfield 15, 3) := by decide +kernel
theorem dX3_add_4 : decode cX3_add 4 = .ok (.ifCond .lt 32, 3) := by decide +kernel
theorem dX3_add_7 : decode cX3_add 7 = .ok (.aload_n 0, 1) := by decide +kernel
theorem dX3_add_8 : decode cX3_add 8 = .ok (.getfield 15, 3) := by decide +kernel
theorem dX3_add_11 : decode cX3_add 11 = .ok (.bipush 60, 2) := by decide +kernel
theorem dX3_add_13 : decode cX3_add 13 = .ok (.if_icmp .ge 23, 3) := by decide +kernel
theorem dX3_add_16 : decode cX3_add 16 = .ok (.aload_n 0, 1) := by decide +kernel
theorem dX3_add_17 : decode cX3_add 17 = .ok (.getfield 9, 3) := by decide +kernel
theorem dX3_add_20 : decode cX3_add 20 = .ok (.aload_n 0, 1) := by decide +kernel
theorem dX3_add_21 : decode cX3_add 21 = .ok (.getfield 15, 3) := by decide +kernel
theorem dX3_add_24 : decode cX3_add 24 = .ok (.iload_n 1, 1) := by decide +kernel
theorem dX3_add_25 : decode cX3_add 25 = .ok (.iastore, 1) := by decide +kernel
theorem dX3_add_26 : decode cX3_add 26 = .ok (.aload_n 0, 1) := by decide +kernel
theorem dX3_add_27 : decode cX3_add 27 = .ok (.dup, 1) := by decide +kernel
theorem dX3_add_28 : decode cX3_add 28 = .ok (.getfield 15, 3) := by decide +kernel
theorem dX3_add_31 : decode cX3_add 31 = .ok (.iconst 1, 1) := by decide +kernel
theorem dX3_add_32 : decode cX3_add 32 = .ok (.iadd, 1) := by decide +kernel
theorem dX3_add_33 : decode cX3_add 33 = .ok (.putfield 15, 3) := by decide +kernel
theorem dX3_add_36 : decode cX3_add 36 = .ok (.return_, 1) := by decide +kernel
theorem dX3_figure_0 : decode cX3_figure 0 = .ok (.iload_n 1, 1) := by decide +kernel
theorem dX3_figure_1 : decode cX3_figure 1 = .ok (.ifCond .lt 11, 3) := by decide +kernel
theorem dX3_figure_4 : decode cX3_figure 4 = .ok (.iload_n 1, 1) := by decide +kernel
theorem dX3_figure_5 : decode cX3_figure 5 = .ok (.aload_n 0, 1) := by decide +kernel
theorem dX3_figure_6 : decode cX3_figure 6 = .ok (.getfield 15, 3) := by decide +kernel
theorem dX3_figure_9 : decode cX3_figure 9 = .ok (.if_icmp .lt 5, 3) := by decide +kernel
theorem dX3_figure_12 : decode cX3_figure 12 = .ok (.iconst (-1), 1) := by decide +kernel
theorem dX3_figure_13 : decode cX3_figure 13 = .ok (.ireturn, 1) := by decide +kernel
theorem dX3_figure_14 : decode cX3_figure 14 = .ok (.aload_n 0, 1) := by decide +kernel
theorem dX3_figure_15 : decode cX3_figure 15 = .ok (.getfield 9, 3) := by decide +kernel
theorem dX3_figure_18 : decode cX3_figure 18 = .ok (.iload_n 1, 1) := by decide +kernel
theorem dX3_figure_19 : decode cX3_figure 19 = .ok (.iaload, 1) := by decide +kernel
theorem dX3_figure_20 : decode cX3_figure 20 = .ok (.istore_n 2, 1) := by decide +kernel
theorem dX3_figure_21 : decode cX3_figure 21 = .ok (.iload_n 2, 1) := by decide +kernel
theorem dX3_figure_22 : decode cX3_figure 22 = .ok (.bipush 48, 2) := by decide +kernel
theorem dX3_figure_24 : decode cX3_figure 24 = .ok (.if_icmp .lt 16, 3) := by decide +kernel
theorem dX3_figure_27 : decode cX3_figure 27 = .ok (.iload_n 2, 1) := by decide +kernel
theorem dX3_figure_28 : decode cX3_figure 28 = .ok (.bipush 57, 2) := by decide +kernel
theorem dX3_figure_30 : decode cX3_figure 30 = .ok (.if_icmp .gt 10, 3) := by decide +kernel
theorem dX3_figure_33 : decode cX3_figure 33 = .ok (.iload_n 2, 1) := by decide +kernel
theorem dX3_figure_34 : decode cX3_figure 34 = .ok (.bipush 48, 2) := by decide +kernel
theorem dX3_figure_36 : decode cX3_figure 36 = .ok (.isub, 1) := by decide +kernel
theorem dX3_figure_37 : decode cX3_figure 37 = .ok (.goto 4, 3) := by decide +kernel
theorem dX3_figure_40 : decode cX3_figure 40 = .ok (.iconst (-1), 1) := by decide +kernel
theorem dX3_figure_41 : decode cX3_figure 41 = .ok (.ireturn, 1) := by decide +kernel
theorem dX3_sizeOfPart_0 : decode cX3_sizeOfPart 0 = .ok (.iload_n 0, 1) := by decide +kernel
theorem dX3_sizeOfPart_1 : decode cX3_sizeOfPart 1 = .ok (.bipush 78, 2) := by decide +kernel
theorem dX3_sizeOfPart_3 : decode cX3_sizeOfPart 3 = .ok (.if_icmp .ne 5, 3) := by decide +kernel
theorem dX3_sizeOfPart_6 : decode cX3_sizeOfPart 6 = .ok (.iconst 5, 1) := by decide +kernel
theorem dX3_sizeOfPart_7 : decode cX3_sizeOfPart 7 = .ok (.ireturn, 1) := by decide +kernel
theorem dX3_sizeOfPart_8 : decode cX3_sizeOfPart 8 = .ok (.iload_n 0, 1) := by decide +kernel
theorem dX3_sizeOfPart_9 : decode cX3_sizeOfPart 9 = .ok (.bipush 87, 2) := by decide +kernel
theorem dX3_sizeOfPart_11 : decode cX3_sizeOfPart 11 = .ok (.if_icmp .eq 9, 3) := by decide +kernel
theorem dX3_sizeOfPart_14 : decode cX3_sizeOfPart 14 = .ok (.iload_n 0, 1) := by decide +kernel
theorem dX3_sizeOfPart_15 : decode cX3_sizeOfPart 15 = .ok (.bipush 68, 2) := by decide +kernel
theorem dX3_sizeOfPart_17 : decode cX3_sizeOfPart 17 = .ok (.if_icmp .ne 7, 3) := by decide +kernel
theorem dX3_sizeOfPart_20 : decode cX3_sizeOfPart 20 = .ok (.iconst 3, 1) := by decide +kernel
theorem dX3_sizeOfPart_21 : decode cX3_sizeOfPart 21 = .ok (.goto 4, 3) := by decide +kernel
theorem dX3_sizeOfPart_24 : decode cX3_sizeOfPart 24 = .ok (.iconst 0, 1) := by decide +kernel
theorem dX3_sizeOfPart_25 : decode cX3_sizeOfPart 25 = .ok (.ireturn, 1) := by decide +kernel
theorem dX3_mostOf_0 : decode cX3_mostOf 0 = .ok (.iload_n 0, 1) := by decide +kernel
theorem dX3_mostOf_1 : decode cX3_mostOf 1 = .ok (.bipush 78, 2) := by decide +kernel
theorem dX3_mostOf_3 : decode cX3_mostOf 3 = .ok (.if_icmp .ne 6, 3) := by decide +kernel
theorem dX3_mostOf_6 : decode cX3_mostOf 6 = .ok (.bipush 7, 2) := by decide +kernel
theorem dX3_mostOf_8 : decode cX3_mostOf 8 = .ok (.ireturn, 1) := by decide +kernel
theorem dX3_mostOf_9 : decode cX3_mostOf 9 = .ok (.iload_n 0, 1) := by decide +kernel
theorem dX3_mostOf_10 : decode cX3_mostOf 10 = .ok (.bipush 87, 2) := by decide +kernel
theorem dX3_mostOf_12 : decode cX3_mostOf 12 = .ok (.if_icmp .ne 7, 3) := by decide +kernel
theorem dX3_mostOf_15 : decode cX3_mostOf 15 = .ok (.iconst 4, 1) := by decide +kernel
theorem dX3_mostOf_16 : decode cX3_mostOf 16 = .ok (.goto 4, 3) := by decide +kernel
theorem dX3_mostOf_19 : decode cX3_mostOf 19 = .ok (.iconst 3, 1) := by decide +kernel
theorem dX3_mostOf_20 : decode cX3_mostOf 20 = .ok (.ireturn, 1) := by decide +kernel
theorem dX3_firstFault_0 : decode cX3_firstFault 0 = .ok (.aload_n 0, 1) := by decide +kernel
theorem dX3_firstFault_1 : decode cX3_firstFault 1 = .ok (.getfield 15, 3) := by decide +kernel
theorem dX3_firstFault_4 : decode cX3_firstFault 4 = .ok (.ifCond .eq 14, 3) := by decide +kernel
theorem dX3_firstFault_7 : decode cX3_firstFault 7 = .ok (.aload_n 0, 1) := by decide +kernel
theorem dX3_firstFault_8 : decode cX3_firstFault 8 = .ok (.getfield 9, 3) := by decide +kernel
theorem dX3_firstFault_11 : decode cX3_firstFault 11 = .ok (.iconst 0, 1) := by decide +kernel
theorem dX3_firstFault_12 : decode cX3_firstFault 12 = .ok (.iaload, 1) := by decide +kernel
theorem dX3_firstFault_13 : decode cX3_firstFault 13 = .ok (.bipush 83, 2) := by decide +kernel
theorem dX3_firstFault_15 : decode cX3_firstFault 15 = .ok (.if_icmp .eq 5, 3) := by decide +kernel
theorem dX3_firstFault_18 : decode cX3_firstFault 18 = .ok (.iconst 0, 1) := by decide +kernel
theorem dX3_firstFault_19 : decode cX3_firstFault 19 = .ok (.ireturn, 1) := by decide +kernel
theorem dX3_firstFault_20 : decode cX3_firstFault 20 = .ok (.iconst 1, 1) := by decide +kernel
theorem dX3_firstFault_21 : decode cX3_firstFault 21 = .ok (.istore_n 1, 1) := by decide +kernel
theorem dX3_firstFault_22 : decode cX3_firstFault 22 = .ok (.iconst 1, 1) := by decide +kernel
theorem dX3_firstFault_23 : decode cX3_firstFault 23 = .ok (.istore_n 2, 1) := by decide +kernel
theorem dX3_firstFault_24 : decode cX3_firstFault 24 = .ok (.iload_n 2, 1) := by decide +kernel
theorem dX3_firstFault_25 : decode cX3_firstFault 25 = .ok (.aload_n 0, 1) := by decide +kernel
theorem dX3_firstFault_26 : decode cX3_firstFault 26 = .ok (.getfield 15, 3) := by decide +kernel
theorem dX3_firstFault_29 : decode cX3_firstFault 29 = .ok (.if_icmp .ge 57, 3) := by decide +kernel
theorem dX3_firstFault_32 : decode cX3_firstFault 32 = .ok (.iload_n 2, 1) := by decide +kernel
theorem dX3_firstFault_33 : decode cX3_firstFault 33 = .ok (.iload_n 1, 1) := by decide +kernel
theorem dX3_firstFault_34 : decode cX3_firstFault 34 = .ok (.if_icmp .ne 14, 3) := by decide +kernel
theorem dX3_firstFault_37 : decode cX3_firstFault 37 = .ok (.aload_n 0, 1) := by decide +kernel
theorem dX3_firstFault_38 : decode cX3_firstFault 38 = .ok (.iload_n 2, 1) := by decide +kernel
theorem dX3_firstFault_39 : decode cX3_firstFault 39 = .ok (.invokevirtual 19, 3) := by decide +kernel
theorem dX3_firstFault_42 : decode cX3_firstFault 42 = .ok (.ifCond .ne 17, 3) := by decide +kernel
theorem dX3_firstFault_45 : decode cX3_firstFault 45 = .ok (.goto 12, 3) := by decide +kernel
theorem dX3_firstFault_48 : decode cX3_firstFault 48 = .ok (.aload_n 0, 1) := by decide +kernel
theorem dX3_firstFault_49 : decode cX3_firstFault 49 = .ok (.iload_n 1, 1) := by decide +kernel
theorem dX3_firstFault_50 : decode cX3_firstFault 50 = .ok (.iload_n 2, 1) := by decide +kernel
theorem dX3_firstFault_51 : decode cX3_firstFault 51 = .ok (.invokevirtual 23, 3) := by decide +kernel
theorem dX3_firstFault_54 : decode cX3_firstFault 54 = .ok (.ifCond .ne 5, 3) := by decide +kernel
theorem dX3_firstFault_57 : decode cX3_firstFault 57 = .ok (.iload_n 2, 1) := by decide +kernel
theorem dX3_firstFault_58 : decode cX3_firstFault 58 = .ok (.ireturn, 1) := by decide +kernel
theorem dX3_firstFault_59 : decode cX3_firstFault 59 = .ok (.iload_n 2, 1) := by decide +kernel
theorem dX3_firstFault_60 : decode cX3_firstFault 60 = .ok (.iload_n 1, 1) := by decide +kernel
theorem dX3_firstFault_61 : decode cX3_firstFault 61 = .ok (.isub, 1) := by decide +kernel
theorem dX3_firstFault_62 : decode cX3_firstFault 62 = .ok (.iconst 1, 1) := by decide +kernel
theorem dX3_firstFault_63 : decode cX3_firstFault 63 = .ok (.iadd, 1) := by decide +kernel
theorem dX3_firstFault_64 : decode cX3_firstFault 64 = .ok (.aload_n 0, 1) := by decide +kernel
theorem dX3_firstFault_65 : decode cX3_firstFault 65 = .ok (.getfield 9, 3) := by decide +kernel
theorem dX3_firstFault_68 : decode cX3_firstFault 68 = .ok (.iload_n 1, 1) := by decide +kernel
theorem dX3_firstFault_69 : decode cX3_firstFault 69 = .ok (.iaload, 1) := by decide +kernel
theorem dX3_firstFault_70 : decode cX3_firstFault 70 = .ok (.invokestatic 27, 3) := by decide +kernel
theorem dX3_firstFault_73 : decode cX3_firstFault 73 = .ok (.if_icmp .ne 7, 3) := by decide +kernel
theorem dX3_firstFault_76 : decode cX3_firstFault 76 = .ok (.iload_n 2, 1) := by decide +kernel
theorem dX3_firstFault_77 : decode cX3_firstFault 77 = .ok (.iconst 1, 1) := by decide +kernel
theorem dX3_firstFault_78 : decode cX3_firstFault 78 = .ok (.iadd, 1) := by decide +kernel
theorem dX3_firstFault_79 : decode cX3_firstFault 79 = .ok (.istore_n 1, 1) := by decide +kernel
theorem dX3_firstFault_80 : decode cX3_firstFault 80 = .ok (.iinc 2 1, 3) := by decide +kernel
theorem dX3_firstFault_83 : decode cX3_firstFault 83 = .ok (.goto (-59), 3) := by decide +kernel
theorem dX3_firstFault_86 : decode cX3_firstFault 86 = .ok (.iload_n 1, 1) := by decide +kernel
theorem dX3_firstFault_87 : decode cX3_firstFault 87 = .ok (.aload_n 0, 1) := by decide +kernel
theorem dX3_firstFault_88 : decode cX3_firstFault 88 = .ok (.getfield 15, 3) := by decide +kernel
theorem dX3_firstFault_91 : decode cX3_firstFault 91 = .ok (.if_icmp .ne 8, 3) := by decide +kernel
theorem dX3_firstFault_94 : decode cX3_firstFault 94 = .ok (.bipush (-9), 2) := by decide +kernel
theorem dX3_firstFault_96 : decode cX3_firstFault 96 = .ok (.goto 7, 3) := by decide +kernel
theorem dX3_firstFault_99 : decode cX3_firstFault 99 = .ok (.aload_n 0, 1) := by decide +kernel
theorem dX3_firstFault_100 : decode cX3_firstFault 100 = .ok (.getfield 15, 3) := by decide +kernel
theorem dX3_firstFault_103 : decode cX3_firstFault 103 = .ok (.ireturn, 1) := by decide +kernel
theorem dX3_canBegin_0 : decode cX3_canBegin 0 = .ok (.aload_n 0, 1) := by decide +kernel
theorem dX3_canBegin_1 : decode cX3_canBegin 1 = .ok (.getfield 9, 3) := by decide +kernel
theorem dX3_canBegin_4 : decode cX3_canBegin 4 = .ok (.iload_n 1, 1) := by decide +kernel
theorem dX3_canBegin_5 : decode cX3_canBegin 5 = .ok (.iaload, 1) := by decide +kernel
theorem dX3_canBegin_6 : decode cX3_canBegin 6 = .ok (.istore_n 2, 1) := by decide +kernel
theorem dX3_canBegin_7 : decode cX3_canBegin 7 = .ok (.iload_n 2, 1) := by decide +kernel
theorem dX3_canBegin_8 : decode cX3_canBegin 8 = .ok (.invokestatic 27, 3) := by decide +kernel
theorem dX3_canBegin_11 : decode cX3_canBegin 11 = .ok (.ifCond .ne 5, 3) := by decide +kernel
theorem dX3_canBegin_14 : decode cX3_canBegin 14 = .ok (.iconst 0, 1) := by decide +kernel
theorem dX3_canBegin_15 : decode cX3_canBegin 15 = .ok (.ireturn, 1) := by decide +kernel
theorem dX3_canBegin_16 : decode cX3_canBegin 16 = .ok (.iconst 0, 1) := by decide +kernel
theorem dX3_canBegin_17 : decode cX3_canBegin 17 = .ok (.istore_n 3, 1) := by decide +kernel
theorem dX3_canBegin_18 : decode cX3_canBegin 18 = .ok (.iconst 1, 1) := by decide +kernel
theorem dX3_canBegin_19 : decode cX3_canBegin 19 = .ok (.istore 4, 2) := by decide +kernel
theorem dX3_canBegin_21 : decode cX3_canBegin 21 = .ok (.iload 4, 2) := by decide +kernel
theorem dX3_canBegin_23 : decode cX3_canBegin 23 = .ok (.iload_n 1, 1) := by decide +kernel
theorem dX3_canBegin_24 : decode cX3_canBegin 24 = .ok (.if_icmp .ge 28, 3) := by decide +kernel
theorem dX3_canBegin_27 : decode cX3_canBegin 27 = .ok (.iload_n 3, 1) := by decide +kernel
theorem dX3_canBegin_28 : decode cX3_canBegin 28 = .ok (.aload_n 0, 1) := by decide +kernel
theorem dX3_canBegin_29 : decode cX3_canBegin 29 = .ok (.getfield 9, 3) := by decide +kernel
theorem dX3_canBegin_32 : decode cX3_canBegin 32 = .ok (.iload 4, 2) := by decide +kernel
theorem dX3_canBegin_34 : decode cX3_canBegin 34 = .ok (.iaload, 1) := by decide +kernel
theorem dX3_canBegin_35 : decode cX3_canBegin 35 = .ok (.iload_n 2, 1) := by decide +kernel
theorem dX3_canBegin_36 : decode cX3_canBegin 36 = .ok (.if_icmp .ne 7, 3) := by decide +kernel
theorem dX3_canBegin_39 : decode cX3_canBegin 39 = .ok (.iconst 1, 1) := by decide +kernel
theorem dX3_canBegin_40 : decode cX3_canBegin 40 = .ok (.goto 4, 3) := by decide +kernel
theorem dX3_canBegin_43 : decode cX3_canBegin 43 = .ok (.iconst 0, 1) := by decide +kernel
theorem dX3_canBegin_44 : decode cX3_canBegin 44 = .ok (.iadd, 1) := by decide +kernel
theorem dX3_canBegin_45 : decode cX3_canBegin 45 = .ok (.istore_n 3, 1) := by decide +kernel
theorem dX3_canBegin_46 : decode cX3_canBegin 46 = .ok (.iinc 4 1, 3) := by decide +kernel
theorem dX3_canBegin_49 : decode cX3_canBegin 49 = .ok (.goto (-28), 3) := by decide +kernel
theorem dX3_canBegin_52 : decode cX3_canBegin 52 = .ok (.iload_n 3, 1) := by decide +kernel
theorem dX3_canBegin_53 : decode cX3_canBegin 53 = .ok (.iload_n 2, 1) := by decide +kernel
theorem dX3_canBegin_54 : decode cX3_canBegin 54 = .ok (.invokestatic 31, 3) := by decide +kernel
theorem dX3_canBegin_57 : decode cX3_canBegin 57 = .ok (.if_icmp .ge 7, 3) := by decide +kernel
theorem dX3_canBegin_60 : decode cX3_canBegin 60 = .ok (.iconst 1, 1) := by decide +kernel
theorem dX3_canBegin_61 : decode cX3_canBegin 61 = .ok (.goto 4, 3) := by decide +kernel
theorem dX3_canBegin_64 : decode cX3_canBegin 64 = .ok (.iconst 0, 1) := by decide +kernel
theorem dX3_canBegin_65 : decode cX3_canBegin 65 = .ok (.ireturn, 1) := by decide +kernel
theorem dX3_canGoOn_0 : decode cX3_canGoOn 0 = .ok (.aload_n 0, 1) := by decide +kernel
theorem dX3_canGoOn_1 : decode cX3_canGoOn 1 = .ok (.iload_n 2, 1) := by decide +kernel
theorem dX3_canGoOn_2 : decode cX3_canGoOn 2 = .ok (.invokevirtual 34, 3) := by decide +kernel
theorem dX3_canGoOn_5 : decode cX3_canGoOn 5 = .ok (.istore_n 3, 1) := by decide +kernel
theorem dX3_canGoOn_6 : decode cX3_canGoOn 6 = .ok (.iload_n 3, 1) := by decide +kernel
theorem dX3_canGoOn_7 : decode cX3_canGoOn 7 = .ok (.ifCond .ge 5, 3) := by decide +kernel
theorem dX3_canGoOn_10 : decode cX3_canGoOn 10 = .ok (.iconst 0, 1) := by decide +kernel
theorem dX3_canGoOn_11 : decode cX3_canGoOn 11 = .ok (.ireturn, 1) := by decide +kernel
theorem dX3_canGoOn_12 : decode cX3_canGoOn 12 = .ok (.aload_n 0, 1) := by decide +kernel
theorem dX3_canGoOn_13 : decode cX3_canGoOn 13 = .ok (.getfield 9, 3) := by decide +kernel
theorem dX3_canGoOn_16 : decode cX3_canGoOn 16 = .ok (.iload_n 1, 1) := by decide +kernel
theorem dX3_canGoOn_17 : decode cX3_canGoOn 17 = .ok (.iaload, 1) := by decide +kernel
theorem dX3_canGoOn_18 : decode cX3_canGoOn 18 = .ok (.bipush 87, 2) := by decide +kernel
theorem dX3_canGoOn_20 : decode cX3_canGoOn 20 = .ok (.if_icmp .ne 7, 3) := by decide +kernel
theorem dX3_canGoOn_23 : decode cX3_canGoOn 23 = .ok (.iconst 1, 1) := by decide +kernel
theorem dX3_canGoOn_24 : decode cX3_canGoOn 24 = .ok (.goto 4, 3) := by decide +kernel
theorem dX3_canGoOn_27 : decode cX3_canGoOn 27 = .ok (.iconst 0, 1) := by decide +kernel
theorem dX3_canGoOn_28 : decode cX3_canGoOn 28 = .ok (.istore 4, 2) := by decide +kernel
theorem dX3_canGoOn_30 : decode cX3_canGoOn 30 = .ok (.iload_n 2, 1) := by decide +kernel
theorem dX3_canGoOn_31 : decode cX3_canGoOn 31 = .ok (.iload_n 1, 1) := by decide +kernel
theorem dX3_canGoOn_32 : decode cX3_canGoOn 32 = .ok (.isub, 1) := by decide +kernel
theorem dX3_canGoOn_33 : decode cX3_canGoOn 33 = .ok (.tableswitch 69 1 3 #[27, 39, 67], 27) := by decide +kernel
theorem dX3_canGoOn_60 : decode cX3_canGoOn 60 = .ok (.iload_n 3, 1) := by decide +kernel
theorem dX3_canGoOn_61 : decode cX3_canGoOn 61 = .ok (.bipush 6, 2) := by decide +kernel
theorem dX3_canGoOn_63 : decode cX3_canGoOn 63 = .ok (.if_icmp .ge 7, 3) := by decide +kernel
theorem dX3_canGoOn_66 : decode cX3_canGoOn 66 = .ok (.iconst 1, 1) := by decide +kernel
theorem dX3_canGoOn_67 : decode cX3_canGoOn 67 = .ok (.goto 4, 3) := by decide +kernel
theorem dX3_canGoOn_70 : decode cX3_canGoOn 70 = .ok (.iconst 0, 1) := by decide +kernel
theorem dX3_canGoOn_71 : decode cX3_canGoOn 71 = .ok (.ireturn, 1) := by decide +kernel
theorem dX3_canGoOn_72 : decode cX3_canGoOn 72 = .ok (.iload 4, 2) := by decide +kernel
theorem dX3_canGoOn_74 : decode cX3_canGoOn 74 = .ok (.ifCond .ne 20, 3) := by decide +kernel
theorem dX3_canGoOn_77 : decode cX3_canGoOn 77 = .ok (.iload_n 3, 1) := by decide +kernel
theorem dX3_canGoOn_78 : decode cX3_canGoOn 78 = .ok (.bipush 6, 2) := by decide +kernel
theorem dX3_canGoOn_80 : decode cX3_canGoOn 80 = .ok (.if_icmp .ge 18, 3) := by decide +kernel
theorem dX3_canGoOn_83 : decode cX3_canGoOn 83 = .ok (.iload_n 3, 1) := by decide +kernel
theorem dX3_canGoOn_84 : decode cX3_canGoOn 84 = .ok (.aload_n 0, 1) := by decide +kernel
theorem dX3_canGoOn_85 : decode cX3_canGoOn 85 = .ok (.iload_n 1, 1) := by decide +kernel
theorem dX3_canGoOn_86 : decode cX3_canGoOn 86 = .ok (.iconst 1, 1) := by decide +kernel
theorem dX3_canGoOn_87 : decode cX3_canGoOn 87 = .ok (.iadd, 1) := by decide +kernel
theorem dX3_canGoOn_88 : decode cX3_canGoOn 88 = .ok (.invokevirtual 34, 3) := by decide +kernel
theorem dX3_canGoOn_91 : decode cX3_canGoOn 91 = .ok (.if_icmp .eq 7, 3) := by decide +kernel
theorem dX3_canGoOn_94 : decode cX3_canGoOn 94 = .ok (.iconst 1, 1) := by decide +kernel
theorem dX3_canGoOn_95 : decode cX3_canGoOn 95 = .ok (.goto 4, 3) := by decide +kernel
theorem dX3_canGoOn_98 : decode cX3_canGoOn 98 = .ok (.iconst 0, 1) := by decide +kernel
theorem dX3_canGoOn_99 : decode cX3_canGoOn 99 = .ok (.ireturn, 1) := by decide +kernel
theorem dX3_canGoOn_100 : decode cX3_canGoOn 100 = .ok (.iconst 1, 1) := by decide +kernel
theorem dX3_canGoOn_101 : decode cX3_canGoOn 101 = .ok (.ireturn, 1) := by decide +kernel
theorem dX3_canGoOn_102 : decode cX3_canGoOn 102 = .ok (.iload_n 3, 1) := by decide +kernel
theorem dX3_canGoOn_103 : decode cX3_canGoOn 103 = .ok (.iconst 3, 1) := by decide +kernel
theorem dX3_canGoOn_104 : decode cX3_canGoOn 104 = .ok (.if_icmp .gt 7, 3) := by decide +kernel
theorem dX3_canGoOn_107 : decode cX3_canGoOn 107 = .ok (.iconst 1, 1) := by decide +kernel
theorem dX3_canGoOn_108 : decode cX3_canGoOn 108 = .ok (.goto 4, 3) := by decide +kernel
theorem dX3_canGoOn_111 : decode cX3_canGoOn 111 = .ok (.iconst 0, 1) := by decide +kernel
theorem dX3_canGoOn_112 : decode cX3_canGoOn 112 = .ok (.ireturn, 1) := by decide +kernel
theorem dX4_readFrom_0 : decode cX4_readFrom 0 = .ok (.aload_n 0, 1) := by decide +kernel
theorem dX4_readFrom_1 : decode cX4_readFrom 1 = .ok (.iconst 0, 1) := by decide +kernel
theorem dX4_readFrom_2 : decode cX4_readFrom 2 = .ok (.putfield 9, 3) := by decide +kernel
theorem dX4_readFrom_5 : decode cX4_readFrom 5 = .ok (.aload_n 0, 1) := by decide +kernel
theorem dX4_readFrom_6 : decode cX4_readFrom 6 = .ok (.iconst 0, 1) := by decide +kernel
theorem dX4_readFrom_7 : decode cX4_readFrom 7 = .ok (.putfield 28, 3) := by decide +kernel
theorem dX4_readFrom_10 : decode cX4_readFrom 10 = .ok (.aload_n 0, 1) := by decide +kernel
theorem dX4_readFrom_11 : decode cX4_readFrom 11 = .ok (.iconst 0, 1) := by decide +kernel
theorem dX4_readFrom_12 : decode cX4_readFrom 12 = .ok (.putfield 37, 3) := by decide +kernel
theorem dX4_readFrom_15 : decode cX4_readFrom 15 = .ok (.iconst 1, 1) := by decide +kernel
theorem dX4_readFrom_16 : decode cX4_readFrom 16 = .ok (.istore_n 2, 1) := by decide +kernel
theorem dX4_readFrom_17 : decode cX4_readFrom 17 = .ok (.iload_n 2, 1) := by decide +kernel
theorem dX4_readFrom_18 : decode cX4_readFrom 18 = .ok (.aload_n 1, 1) := by decide +kernel
theorem dX4_readFrom_19 : decode cX4_readFrom 19 = .ok (.getfield 46, 3) := by decide +kernel
theorem dX4_readFrom_22 : decode cX4_readFrom 22 = .ok (.if_icmp .ge 155, 3) := by decide +kernel
theorem dX4_readFrom_25 : decode cX4_readFrom 25 = .ok (.aload_n 1, 1) := by decide +kernel
theorem dX4_readFrom_26 : decode cX4_readFrom 26 = .ok (.getfield 51, 3) := by decide +kernel
theorem dX4_readFrom_29 : decode cX4_readFrom 29 = .ok (.iload_n 2, 1) := by decide +kernel
theorem dX4_readFrom_30 : decode cX4_readFrom 30 = .ok (.iaload, 1) := by decide +kernel
theorem dX4_readFrom_31 : decode cX4_readFrom 31 = .ok (.istore_n 3, 1) := by decide +kernel
theorem dX4_readFrom_32 : decode cX4_readFrom 32 = .ok (.iload_n 3, 1) := by decide +kernel
theorem dX4_readFrom_33 : decode cX4_readFrom 33 = .ok (.bipush 78, 2) := by decide +kernel
theorem dX4_readFrom_35 : decode cX4_readFrom 35 = .ok (.if_icmp .ne 21, 3) := by decide +kernel
theorem dX4_readFrom_38 : decode cX4_readFrom 38 = .ok (.aload_n 0, 1) := by decide +kernel
theorem dX4_readFrom_39 : decode cX4_readFrom 39 = .ok (.getfield 9, 3) := by decide +kernel
theorem dX4_readFrom_42 : decode cX4_readFrom 42 = .ok (.bipush 7, 2) := by decide +kernel
theorem dX4_readFrom_44 : decode cX4_readFrom 44 = .ok (.if_icmp .ge 12, 3) := by decide +kernel
theorem dX4_readFrom_47 : decode cX4_readFrom 47 = .ok (.aload_n 0, 1) := by decide +kernel
theorem dX4_readFrom_48 : decode cX4_readFrom 48 = .ok (.aload_n 1, 1) := by decide +kernel
theorem dX4_readFrom_49 : decode cX4_readFrom 49 = .ok (.iload_n 2, 1) := by decide +kernel
theorem dX4_readFrom_50 : decode cX4_readFrom 50 = .ok (.invokevirtual 54, 3) := by decide +kernel
theorem dX4_readFrom_53 : decode cX4_readFrom 53 = .ok (.goto 118, 3) := by decide +kernel
theorem dX4_readFrom_56 : decode cX4_readFrom 56 = .ok (.iload_n 3, 1) := by decide +kernel
theorem dX4_readFrom_57 : decode cX4_readFrom 57 = .ok (.bipush 87, 2) := by decide +kernel
theorem dX4_readFrom_59 : decode cX4_readFrom 59 = .ok (.if_icmp .ne 56, 3) := by decide +kernel
theorem dX4_readFrom_62 : decode cX4_readFrom 62 = .ok (.aload_n 0, 1) := by decide +kernel
theorem dX4_readFrom_63 : decode cX4_readFrom 63 = .ok (.getfield 28, 3) := by decide +kernel
theorem dX4_readFrom_66 : decode cX4_readFrom 66 = .ok (.iconst 4, 1) := by decide +kernel
theorem dX4_readFrom_67 : decode cX4_readFrom 67 = .ok (.if_icmp .ge 48, 3) := by decide +kernel
theorem dX4_readFrom_70 : decode cX4_readFrom 70 = .ok (.aload_n 0, 1) := by decide +kernel
theorem dX4_readFrom_71 : decode cX4_readFrom 71 = .ok (.getfield 31, 3) := by decide +kernel
theorem dX4_readFrom_74 : decode cX4_readFrom 74 = .ok (.aload_n 0, 1) := by decide +kernel
theorem dX4_readFrom_75 : decode cX4_readFrom 75 = .ok (.getfield 28, 3) := by decide +kernel
theorem dX4_readFrom_78 : decode cX4_readFrom 78 = .ok (.aload_n 1, 1) := by decide +kernel
theorem dX4_readFrom_79 : decode cX4_readFrom 79 = .ok (.iload_n 2, 1) := by decide +kernel
theorem dX4_readFrom_80 : decode cX4_readFrom 80 = .ok (.iconst 1, 1) := by decide +kernel
theorem dX4_readFrom_81 : decode cX4_readFrom 81 = .ok (.iadd, 1) := by decide +kernel
theorem dX4_readFrom_82 : decode cX4_readFrom 82 = .ok (.invokevirtual 58, 3) := by decide +kernel
theorem dX4_readFrom_85 : decode cX4_readFrom 85 = .ok (.iastore, 1) := by decide +kernel
theorem dX4_readFrom_86 : decode cX4_readFrom 86 = .ok (.aload_n 0, 1) := by decide +kernel
theorem dX4_readFrom_87 : decode cX4_readFrom 87 = .ok (.getfield 34, 3) := by decide +kernel
theorem dX4_readFrom_90 : decode cX4_readFrom 90 = .ok (.aload_n 0, 1) := by decide +kernel
theorem dX4_readFrom_91 : decode cX4_readFrom 91 = .ok (.getfield 28, 3) := by decide +kernel
theorem dX4_readFrom_94 : decode cX4_readFrom 94 = .ok (.aload_n 1, 1) := by decide +kernel
theorem dX4_readFrom_95 : decode cX4_readFrom 95 = .ok (.iload_n 2, 1) := by decide +kernel
theorem dX4_readFrom_96 : decode cX4_readFrom 96 = .ok (.iconst 2, 1) := by decide +kernel
theorem dX4_readFrom_97 : decode cX4_readFrom 97 = .ok (.iadd, 1) := by decide +kernel
theorem dX4_readFrom_98 : decode cX4_readFrom 98 = .ok (.invokevirtual 58, 3) := by decide +kernel
theorem dX4_readFrom_101 : decode cX4_readFrom 101 = .ok (.iastore, 1) := by decide +kernel
theorem dX4_readFrom_102 : decode cX4_readFrom 102 = .ok (.aload_n 0, 1) := by decide +kernel
theorem dX4_readFrom_103 : decode cX4_readFrom 103 = .ok (.dup, 1) := by decide +kernel
theorem dX4_readFrom_104 : decode cX4_readFrom 104 = .ok (.getfield 28, 3) := by decide +kernel
theorem dX4_readFrom_107 : decode cX4_readFrom 107 = .ok (.iconst 1, 1) := by decide +kernel
theorem dX4_readFrom_108 : decode cX4_readFrom 108 = .ok (.iadd, 1) := by decide +kernel
theorem dX4_readFrom_109 : decode cX4_readFrom 109 = .ok (.putfield 28, 3) := by decide +kernel
theorem dX4_readFrom_112 : decode cX4_readFrom 112 = .ok (.goto 59, 3) := by decide +kernel
theorem dX4_readFrom_115 : decode cX4_readFrom 115 = .ok (.iload_n 3, 1) := by decide +kernel
theorem dX4_readFrom_116 : decode cX4_readFrom 116 = .ok (.bipush 68, 2) := by decide +kernel
theorem dX4_readFrom_118 : decode cX4_readFrom 118 = .ok (.if_icmp .ne 53, 3) := by decide +kernel
theorem dX4_readFrom_121 : decode cX4_readFrom 121 = .ok (.aload_n 0, 1) := by decide +kernel
theorem dX4_readFrom_122 : decode cX4_readFrom 122 = .ok (.getfield 37, 3) := by decide +kernel
theorem dX4_readFrom_125 : decode cX4_readFrom 125 = .ok (.iconst 3, 1) := by decide +kernel
theorem dX4_readFrom_126 : decode cX4_readFrom 126 = .ok (.if_icmp .ge 45, 3) := by decide +kernel
theorem dX4_readFrom_129 : decode cX4_readFrom 129 = .ok (.aload_n 0, 1) := by decide +kernel
theorem dX4_readFrom_130 : decode cX4_readFrom 130 = .ok (.getfield 40, 3) := by decide +kernel
theorem dX4_readFrom_133 : decode cX4_readFrom 133 = .ok (.aload_n 0, 1) := by decide +kernel
theorem dX4_readFrom_134 : decode cX4_readFrom 134 = .ok (.getfield 37, 3) := by decide +kernel
theorem dX4_readFrom_137 : decode cX4_readFrom 137 = .ok (.aload_n 1, 1) := by decide +kernel
theorem dX4_readFrom_138 : decode cX4_readFrom 138 = .ok (.iload_n 2, 1) := by decide +kernel
theorem dX4_readFrom_139 : decode cX4_readFrom 139 = .ok (.iconst 1, 1) := by decide +kernel
theorem dX4_readFrom_140 : decode cX4_readFrom 140 = .ok (.iadd, 1) := by decide +kernel
theorem dX4_readFrom_141 : decode cX4_readFrom 141 = .ok (.invokevirtual 58, 3) := by decide +kernel
theorem dX4_readFrom_144 : decode cX4_readFrom 144 = .ok (.iastore, 1) := by decide +kernel
theorem dX4_readFrom_145 : decode cX4_readFrom 145 = .ok (.aload_n 0, 1) := by decide +kernel
theorem dX4_readFrom_146 : decode cX4_readFrom 146 = .ok (.getfield 43, 3) := by decide +kernel
theorem dX4_readFrom_149 : decode cX4_readFrom 149 = .ok (.aload_n 0, 1) := by decide +kernel
theorem dX4_readFrom_150 : decode cX4_readFrom 150 = .ok (.getfield 37, 3) := by decide +kernel
theorem dX4_readFrom_153 : decode cX4_readFrom 153 = .ok (.aload_n 1, 1) := by decide +kernel
theorem dX4_readFrom_154 : decode cX4_readFrom 154 = .ok (.iload_n 2, 1) := by decide +kernel
theorem dX4_readFrom_155 : decode cX4_readFrom 155 = .ok (.iconst 2, 1) := by decide +kernel
theorem dX4_readFrom_156 : decode cX4_readFrom 156 = .ok (.iadd, 1) := by decide +kernel
theorem dX4_readFrom_157 : decode cX4_readFrom 157 = .ok (.invokevirtual 58, 3) := by decide +kernel
theorem dX4_readFrom_160 : decode cX4_readFrom 160 = .ok (.iastore, 1) := by decide +kernel
theorem dX4_readFrom_161 : decode cX4_readFrom 161 = .ok (.aload_n 0, 1) := by decide +kernel
theorem dX4_readFrom_162 : decode cX4_readFrom 162 = .ok (.dup, 1) := by decide +kernel
theorem dX4_readFrom_163 : decode cX4_readFrom 163 = .ok (.getfield 37, 3) := by decide +kernel
theorem dX4_readFrom_166 : decode cX4_readFrom 166 = .ok (.iconst 1, 1) := by decide +kernel
theorem dX4_readFrom_167 : decode cX4_readFrom 167 = .ok (.iadd, 1) := by decide +kernel
theorem dX4_readFrom_168 : decode cX4_readFrom 168 = .ok (.putfield 37, 3) := by decide +kernel
theorem dX4_readFrom_171 : decode cX4_readFrom 171 = .ok (.iinc 2 1, 3) := by decide +kernel
theorem dX4_readFrom_174 : decode cX4_readFrom 174 = .ok (.goto (-157), 3) := by decide +kernel
theorem dX4_readFrom_177 : decode cX4_readFrom 177 = .ok (.return_, 1) := by decide +kernel
theorem dX4_addPin_0 : decode cX4_addPin 0 = .ok (.aload_n 0, 1) := by decide +kernel
theorem dX4_addPin_1 : decode cX4_addPin 1 = .ok (.getfield 15, 3) := by decide +kernel
theorem dX4_addPin_4 : decode cX4_addPin 4 = .ok (.aload_n 0, 1) := by decide +kernel
theorem dX4_addPin_5 : decode cX4_addPin 5 = .ok (.getfield 9, 3) := by decide +kernel
theorem dX4_addPin_8 : decode cX4_addPin 8 = .ok (.aload_n 1, 1) := by decide +kernel
theorem dX4_addPin_9 : decode cX4_addPin 9 = .ok (.iload_n 2, 1) := by decide +kernel
theorem dX4_addPin_10 : decode cX4_addPin 10 = .ok (.iconst 1, 1) := by decide +kernel
theorem dX4_addPin_11 : decode cX4_addPin 11 = .ok (.iadd, 1) := by decide +kernel
theorem dX4_addPin_12 : decode cX4_addPin 12 = .ok (.invokevirtual 58, 3) := by decide +kernel
theorem dX4_addPin_15 : decode cX4_addPin 15 = .ok (.iastore, 1) := by decide +kernel
theorem dX4_addPin_16 : decode cX4_addPin 16 = .ok (.aload_n 0, 1) := by decide +kernel
theorem dX4_addPin_17 : decode cX4_addPin 17 = .ok (.getfield 19, 3) := by decide +kernel
theorem dX4_addPin_20 : decode cX4_addPin 20 = .ok (.aload_n 0, 1) := by decide +kernel
theorem dX4_addPin_21 : decode cX4_addPin 21 = .ok (.getfield 9, 3) := by decide +kernel
theorem dX4_addPin_24 : decode cX4_addPin 24 = .ok (.aload_n 1, 1) := by decide +kernel
theorem dX4_addPin_25 : decode cX4_addPin 25 = .ok (.iload_n 2, 1) := by decide +kernel
theorem dX4_addPin_26 : decode cX4_addPin 26 = .ok (.iconst 2, 1) := by decide +kernel
theorem dX4_addPin_27 : decode cX4_addPin 27 = .ok (.iadd, 1) := by decide +kernel
theorem dX4_addPin_28 : decode cX4_addPin 28 = .ok (.invokevirtual 58, 3) := by decide +kernel
theorem dX4_addPin_31 : decode cX4_addPin 31 = .ok (.iastore, 1) := by decide +kernel
theorem dX4_addPin_32 : decode cX4_addPin 32 = .ok (.aload_n 0, 1) := by decide +kernel
theorem dX4_addPin_33 : decode cX4_addPin 33 = .ok (.getfield 22, 3) := by decide +kernel
theorem dX4_addPin_36 : decode cX4_addPin 36 = .ok (.aload_n 0, 1) := by decide +kernel
theorem dX4_addPin_37 : decode cX4_addPin 37 = .ok (.getfield 9, 3) := by decide +kernel
theorem dX4_addPin_40 : decode cX4_addPin 40 = .ok (.aload_n 1, 1) := by decide +kernel
theorem dX4_addPin_41 : decode cX4_addPin 41 = .ok (.iload_n 2, 1) := by decide +kernel
theorem dX4_addPin_42 : decode cX4_addPin 42 = .ok (.iconst 3, 1) := by decide +kernel
theorem dX4_addPin_43 : decode cX4_addPin 43 = .ok (.iadd, 1) := by decide +kernel
theorem dX4_addPin_44 : decode cX4_addPin 44 = .ok (.invokevirtual 58, 3) := by decide +kernel
theorem dX4_addPin_47 : decode cX4_addPin 47 = .ok (.iastore, 1) := by decide +kernel
theorem dX4_addPin_48 : decode cX4_addPin 48 = .ok (.aload_n 0, 1) := by decide +kernel
theorem dX4_addPin_49 : decode cX4_addPin 49 = .ok (.getfield 25, 3) := by decide +kernel
theorem dX4_addPin_52 : decode cX4_addPin 52 = .ok (.aload_n 0, 1) := by decide +kernel
theorem dX4_addPin_53 : decode cX4_addPin 53 = .ok (.getfield 9, 3) := by decide +kernel
theorem dX4_addPin_56 : decode cX4_addPin 56 = .ok (.aload_n 1, 1) := by decide +kernel
theorem dX4_addPin_57 : decode cX4_addPin 57 = .ok (.iload_n 2, 1) := by decide +kernel
theorem dX4_addPin_58 : decode cX4_addPin 58 = .ok (.iconst 4, 1) := by decide +kernel
theorem dX4_addPin_59 : decode cX4_addPin 59 = .ok (.iadd, 1) := by decide +kernel
theorem dX4_addPin_60 : decode cX4_addPin 60 = .ok (.invokevirtual 58, 3) := by decide +kernel
theorem dX4_addPin_63 : decode cX4_addPin 63 = .ok (.iastore, 1) := by decide +kernel
theorem dX4_addPin_64 : decode cX4_addPin 64 = .ok (.aload_n 0, 1) := by decide +kernel
theorem dX4_addPin_65 : decode cX4_addPin 65 = .ok (.dup, 1) := by decide +kernel
theorem dX4_addPin_66 : decode cX4_addPin 66 = .ok (.getfield 9, 3) := by decide +kernel
theorem dX4_addPin_69 : decode cX4_addPin 69 = .ok (.iconst 1, 1) := by decide +kernel
theorem dX4_addPin_70 : decode cX4_addPin 70 = .ok (.iadd, 1) := by decide +kernel
theorem dX4_addPin_71 : decode cX4_addPin 71 = .ok (.putfield 9, 3) := by decide +kernel
theorem dX4_addPin_74 : decode cX4_addPin 74 = .ok (.return_, 1) := by decide +kernel
theorem dX4_allPins_0 : decode cX4_allPins 0 = .ok (.iconst 1, 1) := by decide +kernel
theorem dX4_allPins_1 : decode cX4_allPins 1 = .ok (.aload_n 0, 1) := by decide +kernel
theorem dX4_allPins_2 : decode cX4_allPins 2 = .ok (.getfield 9, 3) := by decide +kernel
theorem dX4_allPins_5 : decode cX4_allPins 5 = .ok (.ishl, 1) := by decide +kernel
theorem dX4_allPins_6 : decode cX4_allPins 6 = .ok (.iconst 1, 1) := by decide +kernel
theorem dX4_allPins_7 : decode cX4_allPins 7 = .ok (.isub, 1) := by decide +kernel
theorem dX4_allPins_8 : decode cX4_allPins 8 = .ok (.ireturn, 1) := by decide +kernel
theorem dX4_holds_0 : decode cX4_holds 0 = .ok (.aload_n 0, 1) := by decide +kernel
theorem dX4_holds_1 : decode cX4_holds 1 = .ok (.getfield 25, 3) := by decide +kernel
theorem dX4_holds_4 : decode cX4_holds 4 = .ok (.iload_n 1, 1) := by decide +kernel
theorem dX4_holds_5 : decode cX4_holds 5 = .ok (.iaload, 1) := by decide +kernel
theorem dX4_holds_6 : decode cX4_holds 6 = .ok (.iconst 1, 1) := by decide +kernel
theorem dX4_holds_7 : decode cX4_holds 7 = .ok (.if_icmp .ne 12, 3) := by decide +kernel
theorem dX4_holds_10 : decode cX4_holds 10 = .ok (.aload_n 0, 1) := by decide +kernel
theorem dX4_holds_11 : decode cX4_holds 11 = .ok (.getfield 22, 3) := by decide +kernel
theorem dX4_holds_14 : decode cX4_holds 14 = .ok (.iload_n 1, 1) := by decide +kernel
theorem dX4_holds_15 : decode cX4_holds 15 = .ok (.iaload, 1) := by decide +kernel
theorem dX4_holds_16 : decode cX4_holds 16 = .ok (.iconst 3, 1) := by decide +kernel
theorem dX4_holds_17 : decode cX4_holds 17 = .ok (.iadd, 1) := by decide +kernel
theorem dX4_holds_18 : decode cX4_holds 18 = .ok (.ireturn, 1) := by decide +kernel
theorem dX4_holds_19 : decode cX4_holds 19 = .ok (.aload_n 0, 1) := by decide +kernel
theorem dX4_holds_20 : decode cX4_holds 20 = .ok (.getfield 25, 3) := by decide +kernel
theorem dX4_holds_23 : decode cX4_holds 23 = .ok (.iload_n 1, 1) := by decide +kernel
theorem dX4_holds_24 : decode cX4_holds 24 = .ok (.iaload, 1) := by decide +kernel
theorem dX4_holds_25 : decode cX4_holds 25 = .ok (.iconst 2, 1) := by decide +kernel
theorem dX4_holds_26 : decode cX4_holds 26 = .ok (.if_icmp .ne 18, 3) := by decide +kernel
theorem dX4_holds_29 : decode cX4_holds 29 = .ok (.iconst 0, 1) := by decide +kernel
theorem dX4_holds_30 : decode cX4_holds 30 = .ok (.aload_n 0, 1) := by decide +kernel
theorem dX4_holds_31 : decode cX4_holds 31 = .ok (.getfield 22, 3) := by decide +kernel
theorem dX4_holds_34 : decode cX4_holds 34 = .ok (.iload_n 1, 1) := by decide +kernel
theorem dX4_holds_35 : decode cX4_holds 35 = .ok (.iaload, 1) := by decide +kernel
theorem dX4_holds_36 : decode cX4_holds 36 = .ok (.iload_n 2, 1) := by decide +kernel
theorem dX4_holds_37 : decode cX4_holds 37 = .ok (.isub, 1) := by decide +kernel
theorem dX4_holds_38 : decode cX4_holds 38 = .ok (.invokestatic 62, 3) := by decide +kernel
theorem dX4_holds_41 : decode cX4_holds 41 = .ok (.goto 9, 3) := by decide +kernel
theorem dX4_holds_44 : decode cX4_holds 44 = .ok (.aload_n 0, 1) := by decide +kernel
theorem dX4_holds_45 : decode cX4_holds 45 = .ok (.getfield 22, 3) := by decide +kernel
theorem dX4_holds_48 : decode cX4_holds 48 = .ok (.iload_n 1, 1) := by decide +kernel
theorem dX4_holds_49 : decode cX4_holds 49 = .ok (.iaload, 1) := by decide +kernel
theorem dX4_holds_50 : decode cX4_holds 50 = .ok (.ireturn, 1) := by decide +kernel
theorem dX4_endsOf_0 : decode cX4_endsOf 0 = .ok (.iconst 1, 1) := by decide +kernel
theorem dX4_endsOf_1 : decode cX4_endsOf 1 = .ok (.aload_n 0, 1) := by decide +kernel
theorem dX4_endsOf_2 : decode cX4_endsOf 2 = .ok (.getfield 15, 3) := by decide +kernel
theorem dX4_endsOf_5 : decode cX4_endsOf 5 = .ok (.iload_n 1, 1) := by decide +kernel
theorem dX4_endsOf_6 : decode cX4_endsOf 6 = .ok (.iaload, 1) := by decide +kernel
theorem dX4_endsOf_7 : decode cX4_endsOf 7 = .ok (.ishl, 1) := by decide +kernel
theorem dX4_endsOf_8 : decode cX4_endsOf 8 = .ok (.iconst 1, 1) := by decide +kernel
theorem dX4_endsOf_9 : decode cX4_endsOf 9 = .ok (.aload_n 0, 1) := by decide +kernel
theorem dX4_endsOf_10 : decode cX4_endsOf 10 = .ok (.getfield 19, 3) := by decide +kernel
theorem dX4_endsOf_13 : decode cX4_endsOf 13 = .ok (.iload_n 1, 1) := by decide +kernel
theorem dX4_endsOf_14 : decode cX4_endsOf 14 = .ok (.iaload, 1) := by decide +kernel
theorem dX4_endsOf_15 : decode cX4_endsOf 15 = .ok (.ishl, 1) := by decide +kernel
theorem dX4_endsOf_16 : decode cX4_endsOf 16 = .ok (.ior, 1) := by decide +kernel
theorem dX4_endsOf_17 : decode cX4_endsOf 17 = .ok (.ireturn, 1) := by decide +kernel
theorem dX4_reach_0 : decode cX4_reach 0 = .ok (.iconst 1, 1) := by decide +kernel
theorem dX4_reach_1 : decode cX4_reach 1 = .ok (.iload_n 1, 1) := by decide +kernel
theorem dX4_reach_2 : decode cX4_reach 2 = .ok (.ishl, 1) := by decide +kernel
theorem dX4_reach_3 : decode cX4_reach 3 = .ok (.istore_n 3, 1) := by decide +kernel
theorem dX4_reach_4 : decode cX4_reach 4 = .ok (.iconst 1, 1) := by decide +kernel
theorem dX4_reach_5 : decode cX4_reach 5 = .ok (.istore 4, 2) := by decide +kernel
theorem dX4_reach_7 : decode cX4_reach 7 = .ok (.iload 4, 2) := by decide +kernel
theorem dX4_reach_9 : decode cX4_reach 9 = .ok (.bipush 6, 2) := by decide +kernel
theorem dX4_reach_11 : decode cX4_reach 11 = .ok (.if_icmp .ge 56, 3) := by decide +kernel
theorem dX4_reach_14 : decode cX4_reach 14 = .ok (.iconst 0, 1) := by decide +kernel
theorem dX4_reach_15 : decode cX4_reach 15 = .ok (.istore 5, 2) := by decide +kernel
theorem dX4_reach_17 : decode cX4_reach 17 = .ok (.iload 5, 2) := by decide +kernel
theorem dX4_reach_19 : decode cX4_reach 19 = .ok (.aload_n 0, 1) := by decide +kernel
theorem dX4_reach_20 : decode cX4_reach 20 = .ok (.getfield 9, 3) := by decide +kernel
theorem dX4_reach_23 : decode cX4_reach 23 = .ok (.if_icmp .ge 38, 3) := by decide +kernel
theorem dX4_reach_26 : decode cX4_reach 26 = .ok (.iload_n 2, 1) := by decide +kernel
theorem dX4_reach_27 : decode cX4_reach 27 = .ok (.iconst 1, 1) := by decide +kernel
theorem dX4_reach_28 : decode cX4_reach 28 = .ok (.iload 5, 2) := by decide +kernel
theorem dX4_reach_30 : decode cX4_reach 30 = .ok (.ishl, 1) := by decide +kernel
theorem dX4_reach_31 : decode cX4_reach 31 = .ok (.iand, 1) := by decide +kernel
theorem dX4_reach_32 : decode cX4_reach 32 = .ok (.ifCond .ne 23, 3) := by decide +kernel
theorem dX4_reach_35 : decode cX4_reach 35 = .ok (.iload_n 3, 1) := by decide +kernel
theorem dX4_reach_36 : decode cX4_reach 36 = .ok (.aload_n 0, 1) := by decide +kernel
theorem dX4_reach_37 : decode cX4_reach 37 = .ok (.iload 5, 2) := by decide +kernel
theorem dX4_reach_39 : decode cX4_reach 39 = .ok (.invokevirtual 68, 3) := by decide +kernel
theorem dX4_reach_42 : decode cX4_reach 42 = .ok (.iand, 1) := by decide +kernel
theorem dX4_reach_43 : decode cX4_reach 43 = .ok (.ifCond .eq 12, 3) := by decide +kernel
theorem dX4_reach_46 : decode cX4_reach 46 = .ok (.iload_n 3, 1) := by decide +kernel
theorem dX4_reach_47 : decode cX4_reach 47 = .ok (.aload_n 0, 1) := by decide +kernel
theorem dX4_reach_48 : decode cX4_reach 48 = .ok (.iload 5, 2) := by decide +kernel
theorem dX4_reach_50 : decode cX4_reach 50 = .ok (.invokevirtual 68, 3) := by decide +kernel
theorem dX4_reach_53 : decode cX4_reach 53 = .ok (.ior, 1) := by decide +kernel
theorem dX4_reach_54 : decode cX4_reach 54 = .ok (.istore_n 3, 1) := by decide +kernel
theorem dX4_reach_55 : decode cX4_reach 55 = .ok (.iinc 5 1, 3) := by decide +kernel
theorem dX4_reach_58 : decode cX4_reach 58 = .ok (.goto (-41), 3) := by decide +kernel
theorem dX4_reach_61 : decode cX4_reach 61 = .ok (.iinc 4 1, 3) := by decide +kernel
theorem dX4_reach_64 : decode cX4_reach 64 = .ok (.goto (-57), 3) := by decide +kernel
theorem dX4_reach_67 : decode cX4_reach 67 = .ok (.iload_n 3, 1) := by decide +kernel
theorem dX4_reach_68 : decode cX4_reach 68 = .ok (.ireturn, 1) := by decide +kernel
theorem dX4_areTogether_0 : decode cX4_areTogether 0 = .ok (.aload_n 0, 1) := by decide +kernel
theorem dX4_areTogether_1 : decode cX4_areTogether 1 = .ok (.iload_n 1, 1) := by decide +kernel
theorem dX4_areTogether_2 : decode cX4_areTogether 2 = .ok (.iload_n 3, 1) := by decide +kernel
theorem dX4_areTogether_3 : decode cX4_areTogether 3 = .ok (.invokevirtual 71, 3) := by decide +kernel
theorem dX4_areTogether_6 : decode cX4_areTogether 6 = .ok (.iconst 1, 1) := by decide +kernel
theorem dX4_areTogether_7 : decode cX4_areTogether 7 = .ok (.iload_n 2, 1) := by decide +kernel
theorem dX4_areTogether_8 : decode cX4_areTogether 8 = .ok (.ishl, 1) := by decide +kernel
theorem dX4_areTogether_9 : decode cX4_areTogether 9 = .ok (.iand, 1) := by decide +kernel
theorem dX4_areTogether_10 : decode cX4_areTogether 10 = .ok (.ifCond .eq 7, 3) := by decide +kernel
theorem dX4_areTogether_13 : decode cX4_areTogether 13 = .ok (.iconst 1, 1) := by decide +kernel
theorem dX4_areTogether_14 : decode cX4_areTogether 14 = .ok (.goto 4, 3) := by decide +kernel
theorem dX4_areTogether_17 : decode cX4_areTogether 17 = .ok (.iconst 0, 1) := by decide +kernel
theorem dX4_areTogether_18 : decode cX4_areTogether 18 = .ok (.ireturn, 1) := by decide +kernel
theorem dX4_pairsTogether_0 : decode cX4_pairsTogether 0 = .ok (.iconst 0, 1) := by decide +kernel
theorem dX4_pairsTogether_1 : decode cX4_pairsTogether 1 = .ok (.istore_n 2, 1) := by decide +kernel
theorem dX4_pairsTogether_2 : decode cX4_pairsTogether 2 = .ok (.iconst 0, 1) := by decide +kernel
theorem dX4_pairsTogether_3 : decode cX4_pairsTogether 3 = .ok (.istore_n 3, 1) := by decide +kernel
theorem dX4_pairsTogether_4 : decode cX4_pairsTogether 4 = .ok (.iload_n 3, 1) := by decide +kernel
theorem dX4_pairsTogether_5 : decode cX4_pairsTogether 5 = .ok (.bipush 6, 2) := by decide +kernel
theorem dX4_pairsTogether_7 : decode cX4_pairsTogether 7 = .ok (.if_icmp .ge 23, 3) := by decide +kernel
theorem dX4_pairsTogether_10 : decode cX4_pairsTogether 10 = .ok (.iload_n 2, 1) := by decide +kernel
theorem dX4_pairsTogether_11 : decode cX4_pairsTogether 11 = .ok (.aload_n 0, 1) := by decide +kernel
theorem dX4_pairsTogether_12 : decode cX4_pairsTogether 12 = .ok (.iload_n 3, 1) := by decide +kernel
theorem dX4_pairsTogether_13 : decode cX4_pairsTogether 13 = .ok (.iload_n 1, 1) := by decide +kernel
theorem dX4_pairsTogether_14 : decode cX4_pairsTogether 14 = .ok (.invokevirtual 71, 3) := by decide +kernel
theorem dX4_pairsTogether_17 : decode cX4_pairsTogether 17 = .ok (.invokestatic 74, 3) := by decide +kernel
theorem dX4_pairsTogether_20 : decode cX4_pairsTogether 20 = .ok (.iconst 1, 1) := by decide +kernel
theorem dX4_pairsTogether_21 : decode cX4_pairsTogether 21 = .ok (.isub, 1) := by decide +kernel
theorem dX4_pairsTogether_22 : decode cX4_pairsTogether 22 = .ok (.iadd, 1) := by decide +kernel
theorem dX4_pairsTogether_23 : decode cX4_pairsTogether 23 = .ok (.istore_n 2, 1) := by decide +kernel
theorem dX4_pairsTogether_24 : decode cX4_pairsTogether 24 = .ok (.iinc 3 1, 3) := by decide +kernel
theorem dX4_pairsTogether_27 : decode cX4_pairsTogether 27 = .ok (.goto (-23), 3) := by decide +kernel
theorem dX4_pairsTogether_30 : decode cX4_pairsTogether 30 = .ok (.iload_n 2, 1) := by decide +kernel
theorem dX4_pairsTogether_31 : decode cX4_pairsTogether 31 = .ok (.iconst 2, 1) := by decide +kernel
theorem dX4_pairsTogether_32 : decode cX4_pairsTogether 32 = .ok (.idiv, 1) := by decide +kernel
theorem dX4_pairsTogether_33 : decode cX4_pairsTogether 33 = .ok (.ireturn, 1) := by decide +kernel
theorem dX4_doable_0 : decode cX4_doable 0 = .ok (.iconst 0, 1) := by decide +kernel
theorem dX4_doable_1 : decode cX4_doable 1 = .ok (.istore_n 2, 1) := by decide +kernel
theorem dX4_doable_2 : decode cX4_doable 2 = .ok (.iconst 0, 1) := by decide +kernel
theorem dX4_doable_3 : decode cX4_doable 3 = .ok (.istore_n 3, 1) := by decide +kernel
theorem dX4_doable_4 : decode cX4_doable 4 = .ok (.iload_n 3, 1) := by decide +kernel
theorem dX4_doable_5 : decode cX4_doable 5 = .ok (.aload_n 0, 1) := by decide +kernel
theorem dX4_doable_6 : decode cX4_doable 6 = .ok (.getfield 37, 3) := by decide +kernel
theorem dX4_doable_9 : decode cX4_doable 9 = .ok (.if_icmp .ge 35, 3) := by decide +kernel
theorem dX4_doable_12 : decode cX4_doable 12 = .ok (.aload_n 0, 1) := by decide +kernel
theorem dX4_doable_13 : decode cX4_doable 13 = .ok (.aload_n 0, 1) := by decide +kernel
theorem dX4_doable_14 : decode cX4_doable 14 = .ok (.getfield 40, 3) := by decide +kernel
theorem dX4_doable_17 : decode cX4_doable 17 = .ok (.iload_n 3, 1) := by decide +kernel
theorem dX4_doable_18 : decode cX4_doable 18 = .ok (.iaload, 1) := by decide +kernel
theorem dX4_doable_19 : decode cX4_doable 19 = .ok (.aload_n 0, 1) := by decide +kernel
theorem dX4_doable_20 : decode cX4_doable 20 = .ok (.getfield 43, 3) := by decide +kernel
theorem dX4_doable_23 : decode cX4_doable 23 = .ok (.iload_n 3, 1) := by decide +kernel
theorem dX4_doable_24 : decode cX4_doable 24 = .ok (.iaload, 1) := by decide +kernel
theorem dX4_doable_25 : decode cX4_doable 25 = .ok (.iload_n 1, 1) := by decide +kernel
theorem dX4_doable_26 : decode cX4_doable 26 = .ok (.invokevirtual 79, 3) := by decide +kernel
theorem dX4_doable_29 : decode cX4_doable 29 = .ok (.ifCond .ne 9, 3) := by decide +kernel
theorem dX4_doable_32 : decode cX4_doable 32 = .ok (.iload_n 2, 1) := by decide +kernel
theorem dX4_doable_33 : decode cX4_doable 33 = .ok (.iconst 1, 1) := by decide +kernel
theorem dX4_doable_34 : decode cX4_doable 34 = .ok (.iload_n 3, 1) := by decide +kernel
theorem dX4_doable_35 : decode cX4_doable 35 = .ok (.ishl, 1) := by decide +kernel
theorem dX4_doable_36 : decode cX4_doable 36 = .ok (.ior, 1) := by decide +kernel
theorem dX4_doable_37 : decode cX4_doable 37 = .ok (.istore_n 2, 1) := by decide +kernel
theorem dX4_doable_38 : decode cX4_doable 38 = .ok (.iinc 3 1, 3) := by decide +kernel
theorem dX4_doable_41 : decode cX4_doable 41 = .ok (.goto (-37), 3) := by decide +kernel
theorem dX4_doable_44 : decode cX4_doable 44 = .ok (.iload_n 2, 1) := by decide +kernel
theorem dX4_doable_45 : decode cX4_doable 45 = .ok (.ireturn, 1) := by decide +kernel
theorem dX5_add_0 : decode cX5_add 0 = .ok (.aload_n 0, 1) := by decide +kernel
theorem dX5_add_1 : decode cX5_add 1 = .ok (.getfield 19, 3) := by decide +kernel
theorem dX5_add_4 : decode cX5_add 4 = .ok (.ifCond .lt 42, 3) := by decide +kernel
theorem dX5_add_7 : decode cX5_add 7 = .ok (.aload_n 0, 1) := by decide +kernel
theorem dX5_add_8 : decode cX5_add 8 = .ok (.getfield 19, 3) := by decide +kernel
theorem dX5_add_11 : decode cX5_add 11 = .ok (.bipush 6, 2) := by decide +kernel
theorem dX5_add_13 : decode cX5_add 13 = .ok (.if_icmp .ge 33, 3) := by decide +kernel
theorem dX5_add_16 : decode cX5_add 16 = .ok (.aload_n 0, 1) := by decide +kernel
theorem dX5_add_17 : decode cX5_add 17 = .ok (.getfield 9, 3) := by decide +kernel
theorem dX5_add_20 : decode cX5_add 20 = .ok (.aload_n 0, 1) := by decide +kernel
theorem dX5_add_21 : decode cX5_add 21 = .ok (.getfield 19, 3) := by decide +kernel
theorem dX5_add_24 : decode cX5_add 24 = .ok (.iload_n 1, 1) := by decide +kernel
theorem dX5_add_25 : decode cX5_add 25 = .ok (.iastore, 1) := by decide +kernel
theorem dX5_add_26 : decode cX5_add 26 = .ok (.aload_n 0, 1) := by decide +kernel
theorem dX5_add_27 : decode cX5_add 27 = .ok (.getfield 15, 3) := by decide +kernel
theorem dX5_add_30 : decode cX5_add 30 = .ok (.aload_n 0, 1) := by decide +kernel
theorem dX5_add_31 : decode cX5_add 31 = .ok (.getfield 19, 3) := by decide +kernel
theorem dX5_add_34 : decode cX5_add 34 = .ok (.iload_n 2, 1) := by decide +kernel
theorem dX5_add_35 : decode cX5_add 35 = .ok (.bastore, 1) := by decide +kernel
theorem dX5_add_36 : decode cX5_add 36 = .ok (.aload_n 0, 1) := by decide +kernel
theorem dX5_add_37 : decode cX5_add 37 = .ok (.dup, 1) := by decide +kernel
theorem dX5_add_38 : decode cX5_add 38 = .ok (.getfield 19, 3) := by decide +kernel
theorem dX5_add_41 : decode cX5_add 41 = .ok (.iconst 1, 1) := by decide +kernel
theorem dX5_add_42 : decode cX5_add 42 = .ok (.iadd, 1) := by decide +kernel
theorem dX5_add_43 : decode cX5_add 43 = .ok (.putfield 19, 3) := by decide +kernel
theorem dX5_add_46 : decode cX5_add 46 = .ok (.return_, 1) := by decide +kernel
theorem dX5_agreeWith_0 : decode cX5_agreeWith 0 = .ok (.iload_n 1, 1) := by decide +kernel
theorem dX5_agreeWith_1 : decode cX5_agreeWith 1 = .ok (.iconst 1, 1) := by decide +kernel
theorem dX5_agreeWith_2 : decode cX5_agreeWith 2 = .ok (.if_icmp .ne 9, 3) := by decide +kernel
theorem dX5_agreeWith_5 : decode cX5_agreeWith 5 = .ok (.iload_n 2, 1) := by decide +kernel
theorem dX5_agreeWith_6 : decode cX5_agreeWith 6 = .ok (.iconst 3, 1) := by decide +kernel
theorem dX5_agreeWith_7 : decode cX5_agreeWith 7 = .ok (.iadd, 1) := by decide +kernel
theorem dX5_agreeWith_8 : decode cX5_agreeWith 8 = .ok (.goto 4, 3) := by decide +kernel
theorem dX5_agreeWith_11 : decode cX5_agreeWith 11 = .ok (.iload_n 2, 1) := by decide +kernel
theorem dX5_agreeWith_12 : decode cX5_agreeWith 12 = .ok (.istore_n 3, 1) := by decide +kernel
theorem dX5_agreeWith_13 : decode cX5_agreeWith 13 = .ok (.iconst 0, 1) := by decide +kernel
theorem dX5_agreeWith_14 : decode cX5_agreeWith 14 = .ok (.istore 4, 2) := by decide +kernel
theorem dX5_agreeWith_16 : decode cX5_agreeWith 16 = .ok (.iload 4, 2) := by decide +kernel
theorem dX5_agreeWith_18 : decode cX5_agreeWith 18 = .ok (.aload_n 0, 1) := by decide +kernel
theorem dX5_agreeWith_19 : decode cX5_agreeWith 19 = .ok (.getfield 19, 3) := by decide +kernel
theorem dX5_agreeWith_22 : decode cX5_agreeWith 22 = .ok (.if_icmp .ge 37, 3) := by decide +kernel
theorem dX5_agreeWith_25 : decode cX5_agreeWith 25 = .ok (.aload_n 0, 1) := by decide +kernel
theorem dX5_agreeWith_26 : decode cX5_agreeWith 26 = .ok (.getfield 9, 3) := by decide +kernel
theorem dX5_agreeWith_29 : decode cX5_agreeWith 29 = .ok (.iload 4, 2) := by decide +kernel
theorem dX5_agreeWith_31 : decode cX5_agreeWith 31 = .ok (.iaload, 1) := by decide +kernel
theorem dX5_agreeWith_32 : decode cX5_agreeWith 32 = .ok (.iload_n 3, 1) := by decide +kernel
theorem dX5_agreeWith_33 : decode cX5_agreeWith 33 = .ok (.if_icmp .le 7, 3) := by decide +kernel
theorem dX5_agreeWith_36 : decode cX5_agreeWith 36 = .ok (.iconst 1, 1) := by decide +kernel
theorem dX5_agreeWith_37 : decode cX5_agreeWith 37 = .ok (.goto 4, 3) := by decide +kernel
theorem dX5_agreeWith_40 : decode cX5_agreeWith 40 = .ok (.iconst 0, 1) := by decide +kernel
theorem dX5_agreeWith_41 : decode cX5_agreeWith 41 = .ok (.aload_n 0, 1) := by decide +kernel
theorem dX5_agreeWith_42 : decode cX5_agreeWith 42 = .ok (.getfield 15, 3) := by decide +kernel
theorem dX5_agreeWith_45 : decode cX5_agreeWith 45 = .ok (.iload 4, 2) := by decide +kernel
theorem dX5_agreeWith_47 : decode cX5_agreeWith 47 = .ok (.baload, 1) := by decide +kernel
theorem dX5_agreeWith_48 : decode cX5_agreeWith 48 = .ok (.if_icmp .eq 5, 3) := by decide +kernel
theorem dX5_agreeWith_51 : decode cX5_agreeWith 51 = .ok (.iconst 0, 1) := by decide +kernel
theorem dX5_agreeWith_52 : decode cX5_agreeWith 52 = .ok (.ireturn, 1) := by decide +kernel
theorem dX5_agreeWith_53 : decode cX5_agreeWith 53 = .ok (.iinc 4 1, 3) := by decide +kernel
theorem dX5_agreeWith_56 : decode cX5_agreeWith 56 = .ok (.goto (-40), 3) := by decide +kernel
theorem dX5_agreeWith_59 : decode cX5_agreeWith 59 = .ok (.iconst 1, 1) := by decide +kernel
theorem dX5_agreeWith_60 : decode cX5_agreeWith 60 = .ok (.ireturn, 1) := by decide +kernel
theorem dJ6_bitCount_0f7a4_0 : decode cJ6_bitCount_0f7a4 0 = .ok (.iload_n 0, 1) := by decide +kernel
theorem dJ6_bitCount_0f7a4_1 : decode cJ6_bitCount_0f7a4 1 = .ok (.iload_n 0, 1) := by decide +kernel
theorem dJ6_bitCount_0f7a4_2 : decode cJ6_bitCount_0f7a4 2 = .ok (.iconst 1, 1) := by decide +kernel
theorem dJ6_bitCount_0f7a4_3 : decode cJ6_bitCount_0f7a4 3 = .ok (.iushr, 1) := by decide +kernel
theorem dJ6_bitCount_0f7a4_4 : decode cJ6_bitCount_0f7a4 4 = .ok (.ldc_w 265, 3) := by decide +kernel
theorem dJ6_bitCount_0f7a4_7 : decode cJ6_bitCount_0f7a4 7 = .ok (.iand, 1) := by decide +kernel
theorem dJ6_bitCount_0f7a4_8 : decode cJ6_bitCount_0f7a4 8 = .ok (.isub, 1) := by decide +kernel
theorem dJ6_bitCount_0f7a4_9 : decode cJ6_bitCount_0f7a4 9 = .ok (.istore_n 0, 1) := by decide +kernel
theorem dJ6_bitCount_0f7a4_10 : decode cJ6_bitCount_0f7a4 10 = .ok (.iload_n 0, 1) := by decide +kernel
theorem dJ6_bitCount_0f7a4_11 : decode cJ6_bitCount_0f7a4 11 = .ok (.ldc_w 266, 3) := by decide +kernel
theorem dJ6_bitCount_0f7a4_14 : decode cJ6_bitCount_0f7a4 14 = .ok (.iand, 1) := by decide +kernel
theorem dJ6_bitCount_0f7a4_15 : decode cJ6_bitCount_0f7a4 15 = .ok (.iload_n 0, 1) := by decide +kernel
theorem dJ6_bitCount_0f7a4_16 : decode cJ6_bitCount_0f7a4 16 = .ok (.iconst 2, 1) := by decide +kernel
theorem dJ6_bitCount_0f7a4_17 : decode cJ6_bitCount_0f7a4 17 = .ok (.iushr, 1) := by decide +kernel
theorem dJ6_bitCount_0f7a4_18 : decode cJ6_bitCount_0f7a4 18 = .ok (.ldc_w 266, 3) := by decide +kernel
theorem dJ6_bitCount_0f7a4_21 : decode cJ6_bitCount_0f7a4 21 = .ok (.iand, 1) := by decide +kernel
theorem dJ6_bitCount_0f7a4_22 : decode cJ6_bitCount_0f7a4 22 = .ok (.iadd, 1) := by decide +kernel
theorem dJ6_bitCount_0f7a4_23 : decode cJ6_bitCount_0f7a4 23 = .ok (.istore_n 0, 1) := by decide +kernel
theorem dJ6_bitCount_0f7a4_24 : decode cJ6_bitCount_0f7a4 24 = .ok (.iload_n 0, 1) := by decide +kernel
theorem dJ6_bitCount_0f7a4_25 : decode cJ6_bitCount_0f7a4 25 = .ok (.iload_n 0, 1) := by decide +kernel
theorem dJ6_bitCount_0f7a4_26 : decode cJ6_bitCount_0f7a4 26 = .ok (.iconst 4, 1) := by decide +kernel
theorem dJ6_bitCount_0f7a4_27 : decode cJ6_bitCount_0f7a4 27 = .ok (.iushr, 1) := by decide +kernel
theorem dJ6_bitCount_0f7a4_28 : decode cJ6_bitCount_0f7a4 28 = .ok (.iadd, 1) := by decide +kernel
theorem dJ6_bitCount_0f7a4_29 : decode cJ6_bitCount_0f7a4 29 = .ok (.ldc_w 267, 3) := by decide +kernel
theorem dJ6_bitCount_0f7a4_32 : decode cJ6_bitCount_0f7a4 32 = .ok (.iand, 1) := by decide +kernel
theorem dJ6_bitCount_0f7a4_33 : decode cJ6_bitCount_0f7a4 33 = .ok (.istore_n 0, 1) := by decide +kernel
theorem dJ6_bitCount_0f7a4_34 : decode cJ6_bitCount_0f7a4 34 = .ok (.iload_n 0, 1) := by decide +kernel
theorem dJ6_bitCount_0f7a4_35 : decode cJ6_bitCount_0f7a4 35 = .ok (.iload_n 0, 1) := by decide +kernel
theorem dJ6_bitCount_0f7a4_36 : decode cJ6_bitCount_0f7a4 36 = .ok (.bipush 8, 2) := by decide +kernel
theorem dJ6_bitCount_0f7a4_38 : decode cJ6_bitCount_0f7a4 38 = .ok (.iushr, 1) := by decide +kernel
theorem dJ6_bitCount_0f7a4_39 : decode cJ6_bitCount_0f7a4 39 = .ok (.iadd, 1) := by decide +kernel
theorem dJ6_bitCount_0f7a4_40 : decode cJ6_bitCount_0f7a4 40 = .ok (.istore_n 0, 1) := by decide +kernel
theorem dJ6_bitCount_0f7a4_41 : decode cJ6_bitCount_0f7a4 41 = .ok (.iload_n 0, 1) := by decide +kernel
theorem dJ6_bitCount_0f7a4_42 : decode cJ6_bitCount_0f7a4 42 = .ok (.iload_n 0, 1) := by decide +kernel
theorem dJ6_bitCount_0f7a4_43 : decode cJ6_bitCount_0f7a4 43 = .ok (.bipush 16, 2) := by decide +kernel
theorem dJ6_bitCount_0f7a4_45 : decode cJ6_bitCount_0f7a4 45 = .ok (.iushr, 1) := by decide +kernel
theorem dJ6_bitCount_0f7a4_46 : decode cJ6_bitCount_0f7a4 46 = .ok (.iadd, 1) := by decide +kernel
theorem dJ6_bitCount_0f7a4_47 : decode cJ6_bitCount_0f7a4 47 = .ok (.istore_n 0, 1) := by decide +kernel
theorem dJ6_bitCount_0f7a4_48 : decode cJ6_bitCount_0f7a4 48 = .ok (.iload_n 0, 1) := by decide +kernel
theorem dJ6_bitCount_0f7a4_49 : decode cJ6_bitCount_0f7a4 49 = .ok (.bipush 63, 2) := by decide +kernel
theorem dJ6_bitCount_0f7a4_51 : decode cJ6_bitCount_0f7a4 51 = .ok (.iand, 1) := by decide +kernel
theorem dJ6_bitCount_0f7a4_52 : decode cJ6_bitCount_0f7a4 52 = .ok (.ireturn, 1) := by decide +kernel
theorem dJ9_floorMod_7cf53_0 : decode cJ9_floorMod_7cf53 0 = .ok (.iload_n 0, 1) := by decide +kernel
theorem dJ9_floorMod_7cf53_1 : decode cJ9_floorMod_7cf53 1 = .ok (.iload_n 1, 1) := by decide +kernel
theorem dJ9_floorMod_7cf53_2 : decode cJ9_floorMod_7cf53 2 = .ok (.irem, 1) := by decide +kernel
theorem dJ9_floorMod_7cf53_3 : decode cJ9_floorMod_7cf53 3 = .ok (.istore_n 2, 1) := by decide +kernel
theorem dJ9_floorMod_7cf53_4 : decode cJ9_floorMod_7cf53 4 = .ok (.iload_n 0, 1) := by decide +kernel
theorem dJ9_floorMod_7cf53_5 : decode cJ9_floorMod_7cf53 5 = .ok (.iload_n 1, 1) := by decide +kernel
theorem dJ9_floorMod_7cf53_6 : decode cJ9_floorMod_7cf53 6 = .ok (.ixor, 1) := by decide +kernel
theorem dJ9_floorMod_7cf53_7 : decode cJ9_floorMod_7cf53 7 = .ok (.ifCond .ge 11, 3) := by decide +kernel
theorem dJ9_floorMod_7cf53_10 : decode cJ9_floorMod_7cf53 10 = .ok (.iload_n 2, 1) := by decide +kernel
theorem dJ9_floorMod_7cf53_11 : decode cJ9_floorMod_7cf53 11 = .ok (.ifCond .eq 7, 3) := by decide +kernel
theorem dJ9_floorMod_7cf53_14 : decode cJ9_floorMod_7cf53 14 = .ok (.iload_n 2, 1) := by decide +kernel
theorem dJ9_floorMod_7cf53_15 : decode cJ9_floorMod_7cf53 15 = .ok (.iload_n 1, 1) := by decide +kernel
theorem dJ9_floorMod_7cf53_16 : decode cJ9_floorMod_7cf53 16 = .ok (.iadd, 1) := by decide +kernel
theorem dJ9_floorMod_7cf53_17 : decode cJ9_floorMod_7cf53 17 = .ok (.ireturn, 1) := by decide +kernel
theorem dJ9_floorMod_7cf53_18 : decode cJ9_floorMod_7cf53 18 = .ok (.iload_n 2, 1) := by decide +kernel
theorem dJ9_floorMod_7cf53_19 : decode cJ9_floorMod_7cf53 19 = .ok (.ireturn, 1) := by decide +kernel
theorem dJ9_max_7cf53_0 : decode cJ9_max_7cf53 0 = .ok (.iload_n 0, 1) := by decide +kernel
theorem dJ9_max_7cf53_1 : decode cJ9_max_7cf53 1 = .ok (.iload_n 1, 1) := by decide +kernel
theorem dJ9_max_7cf53_2 : decode cJ9_max_7cf53 2 = .ok (.if_icmp .lt 7, 3) := by decide +kernel
theorem dJ9_max_7cf53_5 : decode cJ9_max_7cf53 5 = .ok (.iload_n 0, 1) := by decide +kernel
theorem dJ9_max_7cf53_6 : decode cJ9_max_7cf53 6 = .ok (.goto 4, 3) := by decide +kernel
theorem dJ9_max_7cf53_9 : decode cJ9_max_7cf53 9 = .ok (.iload_n 1, 1) := by decide +kernel
theorem dJ9_max_7cf53_10 : decode cJ9_max_7cf53 10 = .ok (.ireturn, 1) := by decide +kernel
theorem dJ9_max_f86c9_0 : decode cJ9_max_f86c9 0 = .ok (.lload_n 0, 1) := by decide +kernel
theorem dJ9_max_f86c9_1 : decode cJ9_max_f86c9 1 = .ok (.lload_n 2, 1) := by decide +kernel
theorem dJ9_max_f86c9_2 : decode cJ9_max_f86c9 2 = .ok (.lcmp, 1) := by decide +kernel
theorem dJ9_max_f86c9_3 : decode cJ9_max_f86c9 3 = .ok (.ifCond .lt 7, 3) := by decide +kernel
theorem dJ9_max_f86c9_6 : decode cJ9_max_f86c9 6 = .ok (.lload_n 0, 1) := by decide +kernel
theorem dJ9_max_f86c9_7 : decode cJ9_max_f86c9 7 = .ok (.goto 4, 3) := by decide +kernel
theorem dJ9_max_f86c9_10 : decode cJ9_max_f86c9 10 = .ok (.lload_n 2, 1) := by decide +kernel
theorem dJ9_max_f86c9_11 : decode cJ9_max_f86c9 11 = .ok (.lreturn, 1) := by decide +kernel
theorem dJ9_min_7cf53_0 : decode cJ9_min_7cf53 0 = .ok (.iload_n 0, 1) := by decide +kernel
theorem dJ9_min_7cf53_1 : decode cJ9_min_7cf53 1 = .ok (.iload_n 1, 1) := by decide +kernel
theorem dJ9_min_7cf53_2 : decode cJ9_min_7cf53 2 = .ok (.if_icmp .gt 7, 3) := by decide +kernel
theorem dJ9_min_7cf53_5 : decode cJ9_min_7cf53 5 = .ok (.iload_n 0, 1) := by decide +kernel
theorem dJ9_min_7cf53_6 : decode cJ9_min_7cf53 6 = .ok (.goto 4, 3) := by decide +kernel
theorem dJ9_min_7cf53_9 : decode cJ9_min_7cf53 9 = .ok (.iload_n 1, 1) := by decide +kernel
theorem dJ9_min_7cf53_10 : decode cJ9_min_7cf53 10 = .ok (.ireturn, 1) := by decide +kernel
end
section
theorem dX6_write_0 : decode cX6_write 0 = .ok (.iload_n 1, 1) := by decide +kernel
theorem dX6_write_1 : decode cX6_write 1 = .ok (.ifCond .lt 10, 3) := by decide +kernel
theorem dX6_write_4 : decode cX6_write 4 = .ok (.iload_n 1, 1) := by decide +kernel
theorem dX6_write_5 : decode cX6_write 5 = .ok (.sipush 255, 3) := by decide +kernel
theorem dX6_write_8 : decode cX6_write 8 = .ok (.if_icmp .le 6, 3) := by decide +kernel
theorem dX6_write_11 : decode cX6_write 11 = .ok (.bipush (-2), 2) := by decide +kernel
theorem dX6_write_13 : decode cX6_write 13 = .ok (.ireturn, 1) := by decide +kernel
theorem dX6_write_14 : decode cX6_write 14 = .ok (.aload_n 0, 1) := by decide +kernel
theorem dX6_write_15 : decode cX6_write 15 = .ok (.getfield 10, 3) := by decide +kernel
theorem dX6_write_18 : decode cX6_write 18 = .ok (.getfield 75, 3) := by decide +kernel
theorem dX6_write_21 : decode cX6_write 21 = .ok (.bipush 60, 2) := by decide +kernel
theorem dX6_write_23 : decode cX6_write 23 = .ok (.if_icmp .lt 6, 3) := by decide +kernel
theorem dX6_write_26 : decode cX6_write 26 = .ok (.bipush (-4), 2) := by decide +kernel
theorem dX6_write_28 : decode cX6_write 28 = .ok (.ireturn, 1) := by decide +kernel
theorem dX6_write_29 : decode cX6_write 29 = .ok (.aload_n 0, 1) := by decide +kernel
theorem dX6_write_30 : decode cX6_write 30 = .ok (.getfield 10, 3) := by decide +kernel
theorem dX6_write_33 : decode cX6_write 33 = .ok (.iload_n 1, 1) := by decide +kernel
theorem dX6_write_34 : decode cX6_write 34 = .ok (.invokevirtual 79, 3) := by decide +kernel
theorem dX6_write_37 : decode cX6_write 37 = .ok (.aload_n 0, 1) := by decide +kernel
theorem dX6_write_38 : decode cX6_write 38 = .ok (.getfield 10, 3) := by decide +kernel
theorem dX6_write_41 : decode cX6_write 41 = .ok (.getfield 75, 3) := by decide +kernel
theorem dX6_write_44 : decode cX6_write 44 = .ok (.ireturn, 1) := by decide +kernel
theorem dX6_wipe_0 : decode cX6_wipe 0 = .ok (.aload_n 0, 1) := by decide +kernel
theorem dX6_wipe_1 : decode cX6_wipe 1 = .ok (.getfield 10, 3) := by decide +kernel
theorem dX6_wipe_4 : decode cX6_wipe 4 = .ok (.getfield 75, 3) := by decide +kernel
theorem dX6_wipe_7 : decode cX6_wipe 7 = .ok (.istore_n 1, 1) := by decide +kernel
theorem dX6_wipe_8 : decode cX6_wipe 8 = .ok (.aload_n 0, 1) := by decide +kernel
theorem dX6_wipe_9 : decode cX6_wipe 9 = .ok (.getfield 10, 3) := by decide +kernel
theorem dX6_wipe_12 : decode cX6_wipe 12 = .ok (.iconst 0, 1) := by decide +kernel
theorem dX6_wipe_13 : decode cX6_wipe 13 = .ok (.putfield 75, 3) := by decide +kernel
theorem dX6_wipe_16 : decode cX6_wipe 16 = .ok (.iload_n 1, 1) := by decide +kernel
theorem dX6_wipe_17 : decode cX6_wipe 17 = .ok (.ireturn, 1) := by decide +kernel
theorem dX6_fault_0 : decode cX6_fault 0 = .ok (.aload_n 0, 1) := by decide +kernel
theorem dX6_fault_1 : decode cX6_fault 1 = .ok (.getfield 10, 3) := by decide +kernel
theorem dX6_fault_4 : decode cX6_fault 4 = .ok (.invokevirtual 83, 3) := by decide +kernel
theorem dX6_fault_7 : decode cX6_fault 7 = .ok (.ireturn, 1) := by decide +kernel
theorem dX6_town_0 : decode cX6_town 0 = .ok (.aload_n 0, 1) := by decide +kernel
theorem dX6_town_1 : decode cX6_town 1 = .ok (.getfield 10, 3) := by decide +kernel
theorem dX6_town_4 : decode cX6_town 4 = .ok (.invokevirtual 83, 3) := by decide +kernel
theorem dX6_town_7 : decode cX6_town 7 = .ok (.bipush (-9), 2) := by decide +kernel
theorem dX6_town_9 : decode cX6_town 9 = .ok (.if_icmp .eq 6, 3) := by decide +kernel
theorem dX6_town_12 : decode cX6_town 12 = .ok (.bipush (-3), 2) := by decide +kernel
theorem dX6_town_14 : decode cX6_town 14 = .ok (.ireturn, 1) := by decide +kernel
theorem dX6_town_15 : decode cX6_town 15 = .ok (.aload_n 0, 1) := by decide +kernel
theorem dX6_town_16 : decode cX6_town 16 = .ok (.getfield 19, 3) := by decide +kernel
theorem dX6_town_19 : decode cX6_town 19 = .ok (.aload_n 0, 1) := by decide +kernel
theorem dX6_town_20 : decode cX6_town 20 = .ok (.getfield 10, 3) := by decide +kernel
theorem dX6_town_23 : decode cX6_town 23 = .ok (.invokevirtual 87, 3) := by decide +kernel
theorem dX6_town_26 : decode cX6_town 26 = .ok (.aload_n 0, 1) := by decide +kernel
theorem dX6_town_27 : decode cX6_town 27 = .ok (.getfield 35, 3) := by decide +kernel
theorem dX6_town_30 : decode cX6_town 30 = .ok (.invokevirtual 91, 3) := by decide +kernel
theorem dX6_town_33 : decode cX6_town 33 = .ok (.aload_n 0, 1) := by decide +kernel
theorem dX6_town_34 : decode cX6_town 34 = .ok (.getfield 45, 3) := by decide +kernel
theorem dX6_town_37 : decode cX6_town 37 = .ok (.invokevirtual 94, 3) := by decide +kernel
theorem dX6_town_40 : decode cX6_town 40 = .ok (.iconst 0, 1) := by decide +kernel
theorem dX6_town_41 : decode cX6_town 41 = .ok (.istore_n 1, 1) := by decide +kernel
theorem dX6_town_42 : decode cX6_town 42 = .ok (.iload_n 1, 1) := by decide +kernel
theorem dX6_town_43 : decode cX6_town 43 = .ok (.iconst 2, 1) := by decide +kernel
theorem dX6_town_44 : decode cX6_town 44 = .ok (.if_icmp .ge 16, 3) := by decide +kernel
theorem dX6_town_47 : decode cX6_town 47 = .ok (.aload_n 0, 1) := by decide +kernel
theorem dX6_town_48 : decode cX6_town 48 = .ok (.getfield 53, 3) := by decide +kernel
theorem dX6_town_51 : decode cX6_town 51 = .ok (.iload_n 1, 1) := by decide +kernel
theorem dX6_town_52 : decode cX6_town 52 = .ok (.iconst 0, 1) := by decide +kernel
theorem dX6_town_53 : decode cX6_town 53 = .ok (.bastore, 1) := by decide +kernel
theorem dX6_town_54 : decode cX6_town 54 = .ok (.iinc 1 1, 3) := by decide +kernel
theorem dX6_town_57 : decode cX6_town 57 = .ok (.goto (-15), 3) := by decide +kernel
theorem dX6_town_60 : decode cX6_town 60 = .ok (.bipush 100, 2) := by decide +kernel
theorem dX6_town_62 : decode cX6_town 62 = .ok (.aload_n 0, 1) := by decide +kernel
theorem dX6_town_63 : decode cX6_town 63 = .ok (.getfield 19, 3) := by decide +kernel
theorem dX6_town_66 : decode cX6_town 66 = .ok (.getfield 97, 3) := by decide +kernel
theorem dX6_town_69 : decode cX6_town 69 = .ok (.imul, 1) := by decide +kernel
theorem dX6_town_70 : decode cX6_town 70 = .ok (.bipush 10, 2) := by decide +kernel
theorem dX6_town_72 : decode cX6_town 72 = .ok (.aload_n 0, 1) := by decide +kernel
theorem dX6_town_73 : decode cX6_town 73 = .ok (.getfield 19, 3) := by decide +kernel
theorem dX6_town_76 : decode cX6_town 76 = .ok (.getfield 100, 3) := by decide +kernel
theorem dX6_town_79 : decode cX6_town 79 = .ok (.imul, 1) := by decide +kernel
theorem dX6_town_80 : decode cX6_town 80 = .ok (.iadd, 1) := by decide +kernel
theorem dX6_town_81 : decode cX6_town 81 = .ok (.aload_n 0, 1) := by decide +kernel
theorem dX6_town_82 : decode cX6_town 82 = .ok (.getfield 19, 3) := by decide +kernel
theorem dX6_town_85 : decode cX6_town 85 = .ok (.getfield 103, 3) := by decide +kernel
theorem dX6_town_88 : decode cX6_town 88 = .ok (.iadd, 1) := by decide +kernel
theorem dX6_town_89 : decode cX6_town 89 = .ok (.ireturn, 1) := by decide +kernel
theorem dX6_pin_0 : decode cX6_pin 0 = .ok (.aload_n 0, 1) := by decide +kernel
theorem dX6_pin_1 : decode cX6_pin 1 = .ok (.iload_n 1, 1) := by decide +kernel
theorem dX6_pin_2 : decode cX6_pin 2 = .ok (.invokevirtual 106, 3) := by decide +kernel
theorem dX6_pin_5 : decode cX6_pin 5 = .ok (.ifCond .ne 5, 3) := by decide +kernel
theorem dX6_pin_8 : decode cX6_pin 8 = .ok (.iconst (-1), 1) := by decide +kernel
theorem dX6_pin_9 : decode cX6_pin 9 = .ok (.ireturn, 1) := by decide +kernel
theorem dX6_pin_10 : decode cX6_pin 10 = .ok (.iload_n 2, 1) := by decide +kernel
theorem dX6_pin_11 : decode cX6_pin 11 = .ok (.tableswitch 126 0 6 #[41, 51, 61, 71, 81, 99, 109], 41) := by decide +kernel
theorem dX6_pin_52 : decode cX6_pin 52 = .ok (.aload_n 0, 1) := by decide +kernel
theorem dX6_pin_53 : decode cX6_pin 53 = .ok (.getfield 19, 3) := by decide +kernel
theorem dX6_pin_56 : decode cX6_pin 56 = .ok (.getfield 110, 3) := by decide +kernel
theorem dX6_pin_59 : decode cX6_pin 59 = .ok (.iload_n 1, 1) := by decide +kernel
theorem dX6_pin_60 : decode cX6_pin 60 = .ok (.iaload, 1) := by decide +kernel
theorem dX6_pin_61 : decode cX6_pin 61 = .ok (.ireturn, 1) := by decide +kernel
theorem dX6_pin_62 : decode cX6_pin 62 = .ok (.aload_n 0, 1) := by decide +kernel
theorem dX6_pin_63 : decode cX6_pin 63 = .ok (.getfield 19, 3) := by decide +kernel
theorem dX6_pin_66 : decode cX6_pin 66 = .ok (.getfield 113, 3) := by decide +kernel
theorem dX6_pin_69 : decode cX6_pin 69 = .ok (.iload_n 1, 1) := by decide +kernel
theorem dX6_pin_70 : decode cX6_pin 70 = .ok (.iaload, 1) := by decide +kernel
theorem dX6_pin_71 : decode cX6_pin 71 = .ok (.ireturn, 1) := by decide +kernel
theorem dX6_pin_72 : decode cX6_pin 72 = .ok (.aload_n 0, 1) := by decide +kernel
theorem dX6_pin_73 : decode cX6_pin 73 = .ok (.getfield 19, 3) := by decide +kernel
theorem dX6_pin_76 : decode cX6_pin 76 = .ok (.getfield 116, 3) := by decide +kernel
theorem dX6_pin_79 : decode cX6_pin 79 = .ok (.iload_n 1, 1) := by decide +kernel
theorem dX6_pin_80 : decode cX6_pin 80 = .ok (.iaload, 1) := by decide +kernel
theorem dX6_pin_81 : decode cX6_pin 81 = .ok (.ireturn, 1) := by decide +kernel
theorem dX6_pin_82 : decode cX6_pin 82 = .ok (.aload_n 0, 1) := by decide +kernel
theorem dX6_pin_83 : decode cX6_pin 83 = .ok (.getfield 19, 3) := by decide +kernel
theorem dX6_pin_86 : decode cX6_pin 86 = .ok (.getfield 119, 3) := by decide +kernel
theorem dX6_pin_89 : decode cX6_pin 89 = .ok (.iload_n 1, 1) := by decide +kernel
theorem dX6_pin_90 : decode cX6_pin 90 = .ok (.iaload, 1) := by decide +kernel
theorem dX6_pin_91 : decode cX6_pin 91 = .ok (.ireturn, 1) := by decide +kernel
theorem dX6_pin_92 : decode cX6_pin 92 = .ok (.aload_n 0, 1) := by decide +kernel
theorem dX6_pin_93 : decode cX6_pin 93 = .ok (.getfield 19, 3) := by decide +kernel
theorem dX6_pin_96 : decode cX6_pin 96 = .ok (.iload_n 1, 1) := by decide +kernel
theorem dX6_pin_97 : decode cX6_pin 97 = .ok (.aload_n 0, 1) := by decide +kernel
theorem dX6_pin_98 : decode cX6_pin 98 = .ok (.getfield 35, 3) := by decide +kernel
theorem dX6_pin_101 : decode cX6_pin 101 = .ok (.getfield 122, 3) := by decide +kernel
theorem dX6_pin_104 : decode cX6_pin 104 = .ok (.iload_n 1, 1) := by decide +kernel
theorem dX6_pin_105 : decode cX6_pin 105 = .ok (.iaload, 1) := by decide +kernel
theorem dX6_pin_106 : decode cX6_pin 106 = .ok (.invokevirtual 125, 3) := by decide +kernel
theorem dX6_pin_109 : decode cX6_pin 109 = .ok (.ireturn, 1) := by decide +kernel
theorem dX6_pin_110 : decode cX6_pin 110 = .ok (.aload_n 0, 1) := by decide +kernel
theorem dX6_pin_111 : decode cX6_pin 111 = .ok (.getfield 35, 3) := by decide +kernel
theorem dX6_pin_114 : decode cX6_pin 114 = .ok (.getfield 122, 3) := by decide +kernel
theorem dX6_pin_117 : decode cX6_pin 117 = .ok (.iload_n 1, 1) := by decide +kernel
theorem dX6_pin_118 : decode cX6_pin 118 = .ok (.iaload, 1) := by decide +kernel
theorem dX6_pin_119 : decode cX6_pin 119 = .ok (.ireturn, 1) := by decide +kernel
theorem dX6_pin_120 : decode cX6_pin 120 = .ok (.aload_n 0, 1) := by decide +kernel
theorem dX6_pin_121 : decode cX6_pin 121 = .ok (.getfield 35, 3) := by decide +kernel
theorem dX6_pin_124 : decode cX6_pin 124 = .ok (.iload_n 1, 1) := by decide +kernel
theorem dX6_pin_125 : decode cX6_pin 125 = .ok (.invokevirtual 129, 3) := by decide +kernel
theorem dX6_pin_128 : decode cX6_pin 128 = .ok (.ifCond .eq 7, 3) := by decide +kernel
theorem dX6_pin_131 : decode cX6_pin 131 = .ok (.iconst 1, 1) := by decide +kernel
theorem dX6_pin_132 : decode cX6_pin 132 = .ok (.goto 4, 3) := by decide +kernel
theorem dX6_pin_135 : decode cX6_pin 135 = .ok (.iconst 0, 1) := by decide +kernel
theorem dX6_pin_136 : decode cX6_pin 136 = .ok (.ireturn, 1) := by decide +kernel
theorem dX6_pin_137 : decode cX6_pin 137 = .ok (.bipush (-2), 2) := by decide +kernel
theorem dX6_pin_139 : decode cX6_pin 139 = .ok (.ireturn, 1) := by decide +kernel
theorem dX6_with_0 : decode cX6_with 0 = .ok (.iload_n 1, 1) := by decide +kernel
theorem dX6_with_1 : decode cX6_with 1 = .ok (.invokestatic 132, 3) := by decide +kernel
theorem dX6_with_4 : decode cX6_with 4 = .ok (.ifCond .ne 5, 3) := by decide +kernel
theorem dX6_with_7 : decode cX6_with 7 = .ok (.iconst (-1), 1) := by decide +kernel
theorem dX6_with_8 : decode cX6_with 8 = .ok (.ireturn, 1) := by decide +kernel
theorem dX6_with_9 : decode cX6_with 9 = .ok (.aload_n 0, 1) := by decide +kernel
theorem dX6_with_10 : decode cX6_with 10 = .ok (.getfield 19, 3) := by decide +kernel
theorem dX6_with_13 : decode cX6_with 13 = .ok (.iload_n 1, 1) := by decide +kernel
theorem dX6_with_14 : decode cX6_with 14 = .ok (.aload_n 0, 1) := by decide +kernel
theorem dX6_with_15 : decode cX6_with 15 = .ok (.getfield 35, 3) := by decide +kernel
theorem dX6_with_18 : decode cX6_with 18 = .ok (.getfield 135, 3) := by decide +kernel
theorem dX6_with_21 : decode cX6_with 21 = .ok (.invokevirtual 138, 3) := by decide +kernel
theorem dX6_with_24 : decode cX6_with 24 = .ok (.ireturn, 1) := by decide +kernel
theorem dX6_day_0 : decode cX6_day 0 = .ok (.aload_n 0, 1) := by decide +kernel
theorem dX6_day_1 : decode cX6_day 1 = .ok (.getfield 45, 3) := by decide +kernel
theorem dX6_day_4 : decode cX6_day 4 = .ok (.aload_n 0, 1) := by decide +kernel
theorem dX6_day_5 : decode cX6_day 5 = .ok (.getfield 35, 3) := by decide +kernel
theorem dX6_day_8 : decode cX6_day 8 = .ok (.invokevirtual 141, 3) := by decide +kernel
theorem dX6_day_11 : decode cX6_day 11 = .ok (.aload_n 0, 1) := by decide +kernel
theorem dX6_day_12 : decode cX6_day 12 = .ok (.getfield 28, 3) := by decide +kernel
theorem dX6_day_15 : decode cX6_day 15 = .ok (.aload_n 0, 1) := by decide +kernel
theorem dX6_day_16 : decode cX6_day 16 = .ok (.getfield 35, 3) := by decide +kernel
theorem dX6_day_19 : decode cX6_day 19 = .ok (.invokevirtual 145, 3) := by decide +kernel
theorem dX6_day_22 : decode cX6_day 22 = .ok (.ireturn, 1) := by decide +kernel
theorem dX6_tug_0 : decode cX6_tug 0 = .ok (.iload_n 1, 1) := by decide +kernel
theorem dX6_tug_1 : decode cX6_tug 1 = .ok (.invokestatic 132, 3) := by decide +kernel
theorem dX6_tug_4 : decode cX6_tug 4 = .ok (.ifCond .ne 5, 3) := by decide +kernel
theorem dX6_tug_7 : decode cX6_tug 7 = .ok (.iconst (-1), 1) := by decide +kernel
theorem dX6_tug_8 : decode cX6_tug 8 = .ok (.ireturn, 1) := by decide +kernel
theorem dX6_tug_9 : decode cX6_tug 9 = .ok (.iload_n 2, 1) := by decide +kernel
theorem dX6_tug_10 : decode cX6_tug 10 = .ok (.iconst 1, 1) := by decide +kernel
theorem dX6_tug_11 : decode cX6_tug 11 = .ok (.if_icmp .lt 9, 3) := by decide +kernel
theorem dX6_tug_14 : decode cX6_tug 14 = .ok (.iload_n 2, 1) := by decide +kernel
theorem dX6_tug_15 : decode cX6_tug 15 = .ok (.bipush 9, 2) := by decide +kernel
theorem dX6_tug_17 : decode cX6_tug 17 = .ok (.if_icmp .le 6, 3) := by decide +kernel
theorem dX6_tug_20 : decode cX6_tug 20 = .ok (.bipush (-2), 2) := by decide +kernel
theorem dX6_tug_22 : decode cX6_tug 22 = .ok (.ireturn, 1) := by decide +kernel
theorem dX6_tug_23 : decode cX6_tug 23 = .ok (.aload_n 0, 1) := by decide +kernel
theorem dX6_tug_24 : decode cX6_tug 24 = .ok (.getfield 45, 3) := by decide +kernel
theorem dX6_tug_27 : decode cX6_tug 27 = .ok (.aload_n 0, 1) := by decide +kernel
theorem dX6_tug_28 : decode cX6_tug 28 = .ok (.getfield 35, 3) := by decide +kernel
theorem dX6_tug_31 : decode cX6_tug 31 = .ok (.invokevirtual 141, 3) := by decide +kernel
theorem dX6_tug_34 : decode cX6_tug 34 = .ok (.aload_n 0, 1) := by decide +kernel
theorem dX6_tug_35 : decode cX6_tug 35 = .ok (.getfield 28, 3) := by decide +kernel
theorem dX6_tug_38 : decode cX6_tug 38 = .ok (.aload_n 0, 1) := by decide +kernel
theorem dX6_tug_39 : decode cX6_tug 39 = .ok (.getfield 35, 3) := by decide +kernel
theorem dX6_tug_42 : decode cX6_tug 42 = .ok (.iload_n 1, 1) := by decide +kernel
theorem dX6_tug_43 : decode cX6_tug 43 = .ok (.iload_n 2, 1) := by decide +kernel
theorem dX6_tug_44 : decode cX6_tug 44 = .ok (.invokevirtual 149, 3) := by decide +kernel
theorem dX6_tug_47 : decode cX6_tug 47 = .ok (.ireturn, 1) := by decide +kernel
theorem dX6_shut_0 : decode cX6_shut 0 = .ok (.aload_n 0, 1) := by decide +kernel
theorem dX6_shut_1 : decode cX6_shut 1 = .ok (.iload_n 1, 1) := by decide +kernel
theorem dX6_shut_2 : decode cX6_shut 2 = .ok (.invokevirtual 106, 3) := by decide +kernel
theorem dX6_shut_5 : decode cX6_shut 5 = .ok (.ifCond .ne 5, 3) := by decide +kernel
theorem dX6_shut_8 : decode cX6_shut 8 = .ok (.iconst (-1), 1) := by decide +kernel
theorem dX6_shut_9 : decode cX6_shut 9 = .ok (.ireturn, 1) := by decide +kernel
theorem dX6_shut_10 : decode cX6_shut 10 = .ok (.aload_n 0, 1) := by decide +kernel
theorem dX6_shut_11 : decode cX6_shut 11 = .ok (.getfield 35, 3) := by decide +kernel
theorem dX6_shut_14 : decode cX6_shut 14 = .ok (.iload_n 1, 1) := by decide +kernel
theorem dX6_shut_15 : decode cX6_shut 15 = .ok (.invokevirtual 129, 3) := by decide +kernel
theorem dX6_shut_18 : decode cX6_shut 18 = .ok (.ifCond .ne 6, 3) := by decide +kernel
theorem dX6_shut_21 : decode cX6_shut 21 = .ok (.bipush (-3), 2) := by decide +kernel
theorem dX6_shut_23 : decode cX6_shut 23 = .ok (.ireturn, 1) := by decide +kernel
theorem dX6_shut_24 : decode cX6_shut 24 = .ok (.aload_n 0, 1) := by decide +kernel
theorem dX6_shut_25 : decode cX6_shut 25 = .ok (.getfield 45, 3) := by decide +kernel
theorem dX6_shut_28 : decode cX6_shut 28 = .ok (.aload_n 0, 1) := by decide +kernel
theorem dX6_shut_29 : decode cX6_shut 29 = .ok (.getfield 35, 3) := by decide +kernel
theorem dX6_shut_32 : decode cX6_shut 32 = .ok (.invokevirtual 141, 3) := by decide +kernel
theorem dX6_shut_35 : decode cX6_shut 35 = .ok (.aload_n 0, 1) := by decide +kernel
theorem dX6_shut_36 : decode cX6_shut 36 = .ok (.getfield 35, 3) := by decide +kernel
theorem dX6_shut_39 : decode cX6_shut 39 = .ok (.iload_n 1, 1) := by decide +kernel
theorem dX6_shut_40 : decode cX6_shut 40 = .ok (.invokevirtual 153, 3) := by decide +kernel
theorem dX6_shut_43 : decode cX6_shut 43 = .ok (.aload_n 0, 1) := by decide +kernel
theorem dX6_shut_44 : decode cX6_shut 44 = .ok (.getfield 35, 3) := by decide +kernel
theorem dX6_shut_47 : decode cX6_shut 47 = .ok (.getfield 135, 3) := by decide +kernel
theorem dX6_shut_50 : decode cX6_shut 50 = .ok (.invokestatic 156, 3) := by decide +kernel
theorem dX6_shut_53 : decode cX6_shut 53 = .ok (.ireturn, 1) := by decide +kernel
theorem dX6_open_0 : decode cX6_open 0 = .ok (.aload_n 0, 1) := by decide +kernel
theorem dX6_open_1 : decode cX6_open 1 = .ok (.iload_n 1, 1) := by decide +kernel
theorem dX6_open_2 : decode cX6_open 2 = .ok (.invokevirtual 106, 3) := by decide +kernel
theorem dX6_open_5 : decode cX6_open 5 = .ok (.ifCond .ne 5, 3) := by decide +kernel
theorem dX6_open_8 : decode cX6_open 8 = .ok (.iconst (-1), 1) := by decide +kernel
theorem dX6_open_9 : decode cX6_open 9 = .ok (.ireturn, 1) := by decide +kernel
theorem dX6_open_10 : decode cX6_open 10 = .ok (.aload_n 0, 1) := by decide +kernel
theorem dX6_open_11 : decode cX6_open 11 = .ok (.getfield 35, 3) := by decide +kernel
theorem dX6_open_14 : decode cX6_open 14 = .ok (.iload_n 1, 1) := by decide +kernel
theorem dX6_open_15 : decode cX6_open 15 = .ok (.invokevirtual 129, 3) := by decide +kernel
theorem dX6_open_18 : decode cX6_open 18 = .ok (.ifCond .eq 6, 3) := by decide +kernel
theorem dX6_open_21 : decode cX6_open 21 = .ok (.bipush (-3), 2) := by decide +kernel
theorem dX6_open_23 : decode cX6_open 23 = .ok (.ireturn, 1) := by decide +kernel
theorem dX6_open_24 : decode cX6_open 24 = .ok (.aload_n 0, 1) := by decide +kernel
theorem dX6_open_25 : decode cX6_open 25 = .ok (.getfield 45, 3) := by decide +kernel
theorem dX6_open_28 : decode cX6_open 28 = .ok (.aload_n 0, 1) := by decide +kernel
theorem dX6_open_29 : decode cX6_open 29 = .ok (.getfield 35, 3) := by decide +kernel
theorem dX6_open_32 : decode cX6_open 32 = .ok (.invokevirtual 141, 3) := by decide +kernel
theorem dX6_open_35 : decode cX6_open 35 = .ok (.aload_n 0, 1) := by decide +kernel
theorem dX6_open_36 : decode cX6_open 36 = .ok (.getfield 35, 3) := by decide +kernel
theorem dX6_open_39 : decode cX6_open 39 = .ok (.iload_n 1, 1) := by decide +kernel
theorem dX6_open_40 : decode cX6_open 40 = .ok (.invokevirtual 162, 3) := by decide +kernel
theorem dX6_open_43 : decode cX6_open 43 = .ok (.aload_n 0, 1) := by decide +kernel
theorem dX6_open_44 : decode cX6_open 44 = .ok (.getfield 35, 3) := by decide +kernel
theorem dX6_open_47 : decode cX6_open 47 = .ok (.getfield 135, 3) := by decide +kernel
theorem dX6_open_50 : decode cX6_open 50 = .ok (.invokestatic 156, 3) := by decide +kernel
theorem dX6_open_53 : decode cX6_open 53 = .ok (.ireturn, 1) := by decide +kernel
theorem dX6_undo_0 : decode cX6_undo 0 = .ok (.aload_n 0, 1) := by decide +kernel
theorem dX6_undo_1 : decode cX6_undo 1 = .ok (.getfield 45, 3) := by decide +kernel
theorem dX6_undo_4 : decode cX6_undo 4 = .ok (.getfield 165, 3) := by decide +kernel
theorem dX6_undo_7 : decode cX6_undo 7 = .ok (.ifCond .ne 6, 3) := by decide +kernel
theorem dX6_undo_10 : decode cX6_undo 10 = .ok (.bipush (-3), 2) := by decide +kernel
theorem dX6_undo_12 : decode cX6_undo 12 = .ok (.ireturn, 1) := by decide +kernel
theorem dX6_undo_13 : decode cX6_undo 13 = .ok (.aload_n 0, 1) := by decide +kernel
theorem dX6_undo_14 : decode cX6_undo 14 = .ok (.getfield 45, 3) := by decide +kernel
theorem dX6_undo_17 : decode cX6_undo 17 = .ok (.aload_n 0, 1) := by decide +kernel
theorem dX6_undo_18 : decode cX6_undo 18 = .ok (.getfield 35, 3) := by decide +kernel
theorem dX6_undo_21 : decode cX6_undo 21 = .ok (.invokevirtual 166, 3) := by decide +kernel
theorem dX6_undo_24 : decode cX6_undo 24 = .ok (.aload_n 0, 1) := by decide +kernel
theorem dX6_undo_25 : decode cX6_undo 25 = .ok (.getfield 45, 3) := by decide +kernel
theorem dX6_undo_28 : decode cX6_undo 28 = .ok (.getfield 165, 3) := by decide +kernel
theorem dX6_undo_31 : decode cX6_undo 31 = .ok (.ireturn, 1) := by decide +kernel
theorem dX6_later_0 : decode cX6_later 0 = .ok (.iload_n 1, 1) := by decide +kernel
theorem dX6_later_1 : decode cX6_later 1 = .ok (.ifCond .lt 9, 3) := by decide +kernel
theorem dX6_later_4 : decode cX6_later 4 = .ok (.iload_n 1, 1) := by decide +kernel
theorem dX6_later_5 : decode cX6_later 5 = .ok (.bipush 20, 2) := by decide +kernel
theorem dX6_later_7 : decode cX6_later 7 = .ok (.if_icmp .le 6, 3) := by decide +kernel
theorem dX6_later_10 : decode cX6_later 10 = .ok (.bipush (-2), 2) := by decide +kernel
theorem dX6_later_12 : decode cX6_later 12 = .ok (.ireturn, 1) := by decide +kernel
theorem dX6_later_13 : decode cX6_later 13 = .ok (.aload_n 0, 1) := by decide +kernel
theorem dX6_later_14 : decode cX6_later 14 = .ok (.getfield 39, 3) := by decide +kernel
theorem dX6_later_17 : decode cX6_later 17 = .ok (.aload_n 0, 1) := by decide +kernel
theorem dX6_later_18 : decode cX6_later 18 = .ok (.getfield 35, 3) := by decide +kernel
theorem dX6_later_21 : decode cX6_later 21 = .ok (.invokevirtual 169, 3) := by decide +kernel
theorem dX6_later_24 : decode cX6_later 24 = .ok (.iconst 0, 1) := by decide +kernel
theorem dX6_later_25 : decode cX6_later 25 = .ok (.istore_n 2, 1) := by decide +kernel
theorem dX6_later_26 : decode cX6_later 26 = .ok (.iload_n 2, 1) := by decide +kernel
theorem dX6_later_27 : decode cX6_later 27 = .ok (.iload_n 1, 1) := by decide +kernel
theorem dX6_later_28 : decode cX6_later 28 = .ok (.if_icmp .ge 21, 3) := by decide +kernel
theorem dX6_later_31 : decode cX6_later 31 = .ok (.aload_n 0, 1) := by decide +kernel
theorem dX6_later_32 : decode cX6_later 32 = .ok (.getfield 28, 3) := by decide +kernel
theorem dX6_later_35 : decode cX6_later 35 = .ok (.aload_n 0, 1) := by decide +kernel
theorem dX6_later_36 : decode cX6_later 36 = .ok (.getfield 39, 3) := by decide +kernel
theorem dX6_later_39 : decode cX6_later 39 = .ok (.invokevirtual 145, 3) := by decide +kernel
theorem dX6_later_42 : decode cX6_later 42 = .ok (.pop, 1) := by decide +kernel
theorem dX6_later_43 : decode cX6_later 43 = .ok (.iinc 2 1, 3) := by decide +kernel
theorem dX6_later_46 : decode cX6_later 46 = .ok (.goto (-20), 3) := by decide +kernel
theorem dX6_later_49 : decode cX6_later 49 = .ok (.aload_n 0, 1) := by decide +kernel
theorem dX6_later_50 : decode cX6_later 50 = .ok (.getfield 39, 3) := by decide +kernel
theorem dX6_later_53 : decode cX6_later 53 = .ok (.getfield 135, 3) := by decide +kernel
theorem dX6_later_56 : decode cX6_later 56 = .ok (.ireturn, 1) := by decide +kernel
theorem dX6_lasts_0 : decode cX6_lasts 0 = .ok (.aload_n 0, 1) := by decide +kernel
theorem dX6_lasts_1 : decode cX6_lasts 1 = .ok (.iload_n 1, 1) := by decide +kernel
theorem dX6_lasts_2 : decode cX6_lasts 2 = .ok (.invokevirtual 106, 3) := by decide +kernel
theorem dX6_lasts_5 : decode cX6_lasts 5 = .ok (.ifCond .ne 5, 3) := by decide +kernel
theorem dX6_lasts_8 : decode cX6_lasts 8 = .ok (.iconst (-1), 1) := by decide +kernel
theorem dX6_lasts_9 : decode cX6_lasts 9 = .ok (.ireturn, 1) := by decide +kernel
theorem dX6_lasts_10 : decode cX6_lasts 10 = .ok (.aload_n 0, 1) := by decide +kernel
theorem dX6_lasts_11 : decode cX6_lasts 11 = .ok (.getfield 35, 3) := by decide +kernel
theorem dX6_lasts_14 : decode cX6_lasts 14 = .ok (.iload_n 1, 1) := by decide +kernel
theorem dX6_lasts_15 : decode cX6_lasts 15 = .ok (.invokevirtual 129, 3) := by decide +kernel
theorem dX6_lasts_18 : decode cX6_lasts 18 = .ok (.ifCond .eq 6, 3) := by decide +kernel
theorem dX6_lasts_21 : decode cX6_lasts 21 = .ok (.bipush (-3), 2) := by decide +kernel
theorem dX6_lasts_23 : decode cX6_lasts 23 = .ok (.ireturn, 1) := by decide +kernel
theorem dX6_lasts_24 : decode cX6_lasts 24 = .ok (.aload_n 0, 1) := by decide +kernel
theorem dX6_lasts_25 : decode cX6_lasts 25 = .ok (.getfield 39, 3) := by decide +kernel
theorem dX6_lasts_28 : decode cX6_lasts 28 = .ok (.aload_n 0, 1) := by decide +kernel
theorem dX6_lasts_29 : decode cX6_lasts 29 = .ok (.getfield 35, 3) := by decide +kernel
theorem dX6_lasts_32 : decode cX6_lasts 32 = .ok (.invokevirtual 169, 3) := by decide +kernel
theorem dX6_lasts_35 : decode cX6_lasts 35 = .ok (.iconst 1, 1) := by decide +kernel
theorem dX6_lasts_36 : decode cX6_lasts 36 = .ok (.istore_n 2, 1) := by decide +kernel
theorem dX6_lasts_37 : decode cX6_lasts 37 = .ok (.iload_n 2, 1) := by decide +kernel
theorem dX6_lasts_38 : decode cX6_lasts 38 = .ok (.bipush 20, 2) := by decide +kernel
theorem dX6_lasts_40 : decode cX6_lasts 40 = .ok (.if_icmp .gt 34, 3) := by decide +kernel
theorem dX6_lasts_43 : decode cX6_lasts 43 = .ok (.aload_n 0, 1) := by decide +kernel
theorem dX6_lasts_44 : decode cX6_lasts 44 = .ok (.getfield 28, 3) := by decide +kernel
theorem dX6_lasts_47 : decode cX6_lasts 47 = .ok (.aload_n 0, 1) := by decide +kernel
theorem dX6_lasts_48 : decode cX6_lasts 48 = .ok (.getfield 39, 3) := by decide +kernel
theorem dX6_lasts_51 : decode cX6_lasts 51 = .ok (.invokevirtual 145, 3) := by decide +kernel
theorem dX6_lasts_54 : decode cX6_lasts 54 = .ok (.pop, 1) := by decide +kernel
theorem dX6_lasts_55 : decode cX6_lasts 55 = .ok (.aload_n 0, 1) := by decide +kernel
theorem dX6_lasts_56 : decode cX6_lasts 56 = .ok (.getfield 39, 3) := by decide +kernel
theorem dX6_lasts_59 : decode cX6_lasts 59 = .ok (.iload_n 1, 1) := by decide +kernel
theorem dX6_lasts_60 : decode cX6_lasts 60 = .ok (.invokevirtual 129, 3) := by decide +kernel
theorem dX6_lasts_63 : decode cX6_lasts 63 = .ok (.ifCond .eq 5, 3) := by decide +kernel
theorem dX6_lasts_66 : decode cX6_lasts 66 = .ok (.iload_n 2, 1) := by decide +kernel
theorem dX6_lasts_67 : decode cX6_lasts 67 = .ok (.ireturn, 1) := by decide +kernel
theorem dX6_lasts_68 : decode cX6_lasts 68 = .ok (.iinc 2 1, 3) := by decide +kernel
theorem dX6_lasts_71 : decode cX6_lasts 71 = .ok (.goto (-34), 3) := by decide +kernel
theorem dX6_lasts_74 : decode cX6_lasts 74 = .ok (.bipush (-9), 2) := by decide +kernel
theorem dX6_lasts_76 : decode cX6_lasts 76 = .ok (.ireturn, 1) := by decide +kernel
theorem dX6_chain_0 : decode cX6_chain 0 = .ok (.aload_n 0, 1) := by decide +kernel
theorem dX6_chain_1 : decode cX6_chain 1 = .ok (.iload_n 1, 1) := by decide +kernel
theorem dX6_chain_2 : decode cX6_chain 2 = .ok (.invokevirtual 106, 3) := by decide +kernel
theorem dX6_chain_5 : decode cX6_chain 5 = .ok (.ifCond .ne 5, 3) := by decide +kernel
theorem dX6_chain_8 : decode cX6_chain 8 = .ok (.iconst (-1), 1) := by decide +kernel
theorem dX6_chain_9 : decode cX6_chain 9 = .ok (.ireturn, 1) := by decide +kernel
theorem dX6_chain_10 : decode cX6_chain 10 = .ok (.aload_n 0, 1) := by decide +kernel
theorem dX6_chain_11 : decode cX6_chain 11 = .ok (.getfield 35, 3) := by decide +kernel
theorem dX6_chain_14 : decode cX6_chain 14 = .ok (.iload_n 1, 1) := by decide +kernel
theorem dX6_chain_15 : decode cX6_chain 15 = .ok (.invokevirtual 129, 3) := by decide +kernel
theorem dX6_chain_18 : decode cX6_chain 18 = .ok (.ifCond .eq 6, 3) := by decide +kernel
theorem dX6_chain_21 : decode cX6_chain 21 = .ok (.bipush (-3), 2) := by decide +kernel
theorem dX6_chain_23 : decode cX6_chain 23 = .ok (.ireturn, 1) := by decide +kernel
theorem dX6_chain_24 : decode cX6_chain 24 = .ok (.aload_n 0, 1) := by decide +kernel
theorem dX6_chain_25 : decode cX6_chain 25 = .ok (.getfield 39, 3) := by decide +kernel
theorem dX6_chain_28 : decode cX6_chain 28 = .ok (.aload_n 0, 1) := by decide +kernel
theorem dX6_chain_29 : decode cX6_chain 29 = .ok (.getfield 35, 3) := by decide +kernel
theorem dX6_chain_32 : decode cX6_chain 32 = .ok (.invokevirtual 169, 3) := by decide +kernel
theorem dX6_chain_35 : decode cX6_chain 35 = .ok (.aload_n 0, 1) := by decide +kernel
theorem dX6_chain_36 : decode cX6_chain 36 = .ok (.getfield 39, 3) := by decide +kernel
theorem dX6_chain_39 : decode cX6_chain 39 = .ok (.iload_n 1, 1) := by decide +kernel
theorem dX6_chain_40 : decode cX6_chain 40 = .ok (.invokevirtual 162, 3) := by decide +kernel
theorem dX6_chain_43 : decode cX6_chain 43 = .ok (.aload_n 0, 1) := by decide +kernel
theorem dX6_chain_44 : decode cX6_chain 44 = .ok (.getfield 28, 3) := by decide +kernel
theorem dX6_chain_47 : decode cX6_chain 47 = .ok (.invokevirtual 172, 3) := by decide +kernel
theorem dX6_chain_50 : decode cX6_chain 50 = .ok (.aload_n 0, 1) := by decide +kernel
theorem dX6_chain_51 : decode cX6_chain 51 = .ok (.getfield 28, 3) := by decide +kernel
theorem dX6_chain_54 : decode cX6_chain 54 = .ok (.iload_n 1, 1) := by decide +kernel
theorem dX6_chain_55 : decode cX6_chain 55 = .ok (.invokevirtual 175, 3) := by decide +kernel
theorem dX6_chain_58 : decode cX6_chain 58 = .ok (.aload_n 0, 1) := by decide +kernel
theorem dX6_chain_59 : decode cX6_chain 59 = .ok (.getfield 28, 3) := by decide +kernel
theorem dX6_chain_62 : decode cX6_chain 62 = .ok (.aload_n 0, 1) := by decide +kernel
theorem dX6_chain_63 : decode cX6_chain 63 = .ok (.getfield 39, 3) := by decide +kernel
theorem dX6_chain_66 : decode cX6_chain 66 = .ok (.invokevirtual 178, 3) := by decide +kernel
theorem dX6_chain_69 : decode cX6_chain 69 = .ok (.pop, 1) := by decide +kernel
theorem dX6_chain_70 : decode cX6_chain 70 = .ok (.aload_n 0, 1) := by decide +kernel
theorem dX6_chain_71 : decode cX6_chain 71 = .ok (.getfield 39, 3) := by decide +kernel
theorem dX6_chain_74 : decode cX6_chain 74 = .ok (.getfield 135, 3) := by decide +kernel
theorem dX6_chain_77 : decode cX6_chain 77 = .ok (.aload_n 0, 1) := by decide +kernel
theorem dX6_chain_78 : decode cX6_chain 78 = .ok (.getfield 35, 3) := by decide +kernel
theorem dX6_chain_81 : decode cX6_chain 81 = .ok (.getfield 135, 3) := by decide +kernel
theorem dX6_chain_84 : decode cX6_chain 84 = .ok (.iconst (-1), 1) := by decide +kernel
theorem dX6_chain_85 : decode cX6_chain 85 = .ok (.ixor, 1) := by decide +kernel
theorem dX6_chain_86 : decode cX6_chain 86 = .ok (.iand, 1) := by decide +kernel
theorem dX6_chain_87 : decode cX6_chain 87 = .ok (.ireturn, 1) := by decide +kernel
theorem dX6_cuts_0 : decode cX6_cuts 0 = .ok (.iload_n 1, 1) := by decide +kernel
theorem dX6_cuts_1 : decode cX6_cuts 1 = .ok (.iload_n 2, 1) := by decide +kernel
theorem dX6_cuts_2 : decode cX6_cuts 2 = .ok (.invokestatic 181, 3) := by decide +kernel
theorem dX6_cuts_5 : decode cX6_cuts 5 = .ok (.istore_n 3, 1) := by decide +kernel
theorem dX6_cuts_6 : decode cX6_cuts 6 = .ok (.iload_n 3, 1) := by decide +kernel
theorem dX6_cuts_7 : decode cX6_cuts 7 = .ok (.ifCond .eq 5, 3) := by decide +kernel
theorem dX6_cuts_10 : decode cX6_cuts 10 = .ok (.iload_n 3, 1) := by decide +kernel
theorem dX6_cuts_11 : decode cX6_cuts 11 = .ok (.ireturn, 1) := by decide +kernel
theorem dX6_cuts_12 : decode cX6_cuts 12 = .ok (.bipush (-9), 2) := by decide +kernel
theorem dX6_cuts_14 : decode cX6_cuts 14 = .ok (.istore 4, 2) := by decide +kernel
theorem dX6_cuts_16 : decode cX6_cuts 16 = .ok (.iconst 0, 1) := by decide +kernel
theorem dX6_cuts_17 : decode cX6_cuts 17 = .ok (.istore 5, 2) := by decide +kernel
theorem dX6_cuts_19 : decode cX6_cuts 19 = .ok (.iload 5, 2) := by decide +kernel
theorem dX6_cuts_21 : decode cX6_cuts 21 = .ok (.aload_n 0, 1) := by decide +kernel
theorem dX6_cuts_22 : decode cX6_cuts 22 = .ok (.getfield 19, 3) := by decide +kernel
theorem dX6_cuts_25 : decode cX6_cuts 25 = .ok (.invokevirtual 184, 3) := by decide +kernel
theorem dX6_cuts_28 : decode cX6_cuts 28 = .ok (.if_icmp .gt 46, 3) := by decide +kernel
theorem dX6_cuts_31 : decode cX6_cuts 31 = .ok (.aload_n 0, 1) := by decide +kernel
theorem dX6_cuts_32 : decode cX6_cuts 32 = .ok (.iload 5, 2) := by decide +kernel
theorem dX6_cuts_34 : decode cX6_cuts 34 = .ok (.iload 4, 2) := by decide +kernel
theorem dX6_cuts_36 : decode cX6_cuts 36 = .ok (.invokevirtual 187, 3) := by decide +kernel
theorem dX6_cuts_39 : decode cX6_cuts 39 = .ok (.ifCond .eq 29, 3) := by decide +kernel
theorem dX6_cuts_42 : decode cX6_cuts 42 = .ok (.aload_n 0, 1) := by decide +kernel
theorem dX6_cuts_43 : decode cX6_cuts 43 = .ok (.getfield 19, 3) := by decide +kernel
theorem dX6_cuts_46 : decode cX6_cuts 46 = .ok (.iload_n 1, 1) := by decide +kernel
theorem dX6_cuts_47 : decode cX6_cuts 47 = .ok (.iload_n 2, 1) := by decide +kernel
theorem dX6_cuts_48 : decode cX6_cuts 48 = .ok (.aload_n 0, 1) := by decide +kernel
theorem dX6_cuts_49 : decode cX6_cuts 49 = .ok (.getfield 35, 3) := by decide +kernel
theorem dX6_cuts_52 : decode cX6_cuts 52 = .ok (.getfield 135, 3) := by decide +kernel
theorem dX6_cuts_55 : decode cX6_cuts 55 = .ok (.iload 5, 2) := by decide +kernel
theorem dX6_cuts_57 : decode cX6_cuts 57 = .ok (.ior, 1) := by decide +kernel
theorem dX6_cuts_58 : decode cX6_cuts 58 = .ok (.invokevirtual 191, 3) := by decide +kernel
theorem dX6_cuts_61 : decode cX6_cuts 61 = .ok (.ifCond .ne 7, 3) := by decide +kernel
theorem dX6_cuts_64 : decode cX6_cuts 64 = .ok (.iload 5, 2) := by decide +kernel
theorem dX6_cuts_66 : decode cX6_cuts 66 = .ok (.istore 4, 2) := by decide +kernel
theorem dX6_cuts_68 : decode cX6_cuts 68 = .ok (.iinc 5 1, 3) := by decide +kernel
theorem dX6_cuts_71 : decode cX6_cuts 71 = .ok (.goto (-52), 3) := by decide +kernel
theorem dX6_cuts_74 : decode cX6_cuts 74 = .ok (.iload 4, 2) := by decide +kernel
theorem dX6_cuts_76 : decode cX6_cuts 76 = .ok (.ireturn, 1) := by decide +kernel
theorem dX6_parts_0 : decode cX6_parts 0 = .ok (.iload_n 1, 1) := by decide +kernel
theorem dX6_parts_1 : decode cX6_parts 1 = .ok (.iload_n 2, 1) := by decide +kernel
theorem dX6_parts_2 : decode cX6_parts 2 = .ok (.invokestatic 181, 3) := by decide +kernel
theorem dX6_parts_5 : decode cX6_parts 5 = .ok (.istore 4, 2) := by decide +kernel
theorem dX6_parts_7 : decode cX6_parts 7 = .ok (.iload 4, 2) := by decide +kernel
theorem dX6_parts_9 : decode cX6_parts 9 = .ok (.ifCond .eq 6, 3) := by decide +kernel
theorem dX6_parts_12 : decode cX6_parts 12 = .ok (.iload 4, 2) := by decide +kernel
theorem dX6_parts_14 : decode cX6_parts 14 = .ok (.ireturn, 1) := by decide +kernel
theorem dX6_parts_15 : decode cX6_parts 15 = .ok (.iload_n 3, 1) := by decide +kernel
theorem dX6_parts_16 : decode cX6_parts 16 = .ok (.ifCond .lt 8, 3) := by decide +kernel
theorem dX6_parts_19 : decode cX6_parts 19 = .ok (.iload_n 3, 1) := by decide +kernel
theorem dX6_parts_20 : decode cX6_parts 20 = .ok (.iconst 1, 1) := by decide +kernel
theorem dX6_parts_21 : decode cX6_parts 21 = .ok (.if_icmp .le 6, 3) := by decide +kernel
theorem dX6_parts_24 : decode cX6_parts 24 = .ok (.bipush (-2), 2) := by decide +kernel
theorem dX6_parts_26 : decode cX6_parts 26 = .ok (.ireturn, 1) := by decide +kernel
theorem dX6_parts_27 : decode cX6_parts 27 = .ok (.aload_n 0, 1) := by decide +kernel
theorem dX6_parts_28 : decode cX6_parts 28 = .ok (.getfield 19, 3) := by decide +kernel
theorem dX6_parts_31 : decode cX6_parts 31 = .ok (.iload_n 1, 1) := by decide +kernel
theorem dX6_parts_32 : decode cX6_parts 32 = .ok (.iload_n 2, 1) := by decide +kernel
theorem dX6_parts_33 : decode cX6_parts 33 = .ok (.aload_n 0, 1) := by decide +kernel
theorem dX6_parts_34 : decode cX6_parts 34 = .ok (.getfield 35, 3) := by decide +kernel
theorem dX6_parts_37 : decode cX6_parts 37 = .ok (.getfield 135, 3) := by decide +kernel
theorem dX6_parts_40 : decode cX6_parts 40 = .ok (.invokevirtual 191, 3) := by decide +kernel
theorem dX6_parts_43 : decode cX6_parts 43 = .ok (.ifCond .ne 14, 3) := by decide +kernel
theorem dX6_parts_46 : decode cX6_parts 46 = .ok (.iload_n 3, 1) := by decide +kernel
theorem dX6_parts_47 : decode cX6_parts 47 = .ok (.ifCond .ne 7, 3) := by decide +kernel
theorem dX6_parts_50 : decode cX6_parts 50 = .ok (.iconst 0, 1) := by decide +kernel
theorem dX6_parts_51 : decode cX6_parts 51 = .ok (.goto 5, 3) := by decide +kernel
theorem dX6_parts_54 : decode cX6_parts 54 = .ok (.bipush (-9), 2) := by decide +kernel
theorem dX6_parts_56 : decode cX6_parts 56 = .ok (.ireturn, 1) := by decide +kernel
theorem dX6_parts_57 : decode cX6_parts 57 = .ok (.iconst 1, 1) := by decide +kernel
theorem dX6_parts_58 : decode cX6_parts 58 = .ok (.istore 5, 2) := by decide +kernel
theorem dX6_parts_60 : decode cX6_parts 60 = .ok (.iload 5, 2) := by decide +kernel
theorem dX6_parts_62 : decode cX6_parts 62 = .ok (.bipush 9, 2) := by decide +kernel
theorem dX6_parts_64 : decode cX6_parts 64 = .ok (.if_icmp .gt 38, 3) := by decide +kernel
theorem dX6_parts_67 : decode cX6_parts 67 = .ok (.aload_n 0, 1) := by decide +kernel
theorem dX6_parts_68 : decode cX6_parts 68 = .ok (.iload_n 1, 1) := by decide +kernel
theorem dX6_parts_69 : decode cX6_parts 69 = .ok (.iload_n 2, 1) := by decide +kernel
theorem dX6_parts_70 : decode cX6_parts 70 = .ok (.iload 5, 2) := by decide +kernel
theorem dX6_parts_72 : decode cX6_parts 72 = .ok (.invokevirtual 195, 3) := by decide +kernel
theorem dX6_parts_75 : decode cX6_parts 75 = .ok (.istore 6, 2) := by decide +kernel
theorem dX6_parts_77 : decode cX6_parts 77 = .ok (.iload 6, 2) := by decide +kernel
theorem dX6_parts_79 : decode cX6_parts 79 = .ok (.bipush (-9), 2) := by decide +kernel
theorem dX6_parts_81 : decode cX6_parts 81 = .ok (.if_icmp .eq 15, 3) := by decide +kernel
theorem dX6_parts_84 : decode cX6_parts 84 = .ok (.iload_n 3, 1) := by decide +kernel
theorem dX6_parts_85 : decode cX6_parts 85 = .ok (.ifCond .ne 8, 3) := by decide +kernel
theorem dX6_parts_88 : decode cX6_parts 88 = .ok (.iload 5, 2) := by decide +kernel
theorem dX6_parts_90 : decode cX6_parts 90 = .ok (.goto 5, 3) := by decide +kernel
theorem dX6_parts_93 : decode cX6_parts 93 = .ok (.iload 6, 2) := by decide +kernel
theorem dX6_parts_95 : decode cX6_parts 95 = .ok (.ireturn, 1) := by decide +kernel
theorem dX6_parts_96 : decode cX6_parts 96 = .ok (.iinc 5 1, 3) := by decide +kernel
theorem dX6_parts_99 : decode cX6_parts 99 = .ok (.goto (-39), 3) := by decide +kernel
theorem dX6_parts_102 : decode cX6_parts 102 = .ok (.bipush (-9), 2) := by decide +kernel
theorem dX6_parts_104 : decode cX6_parts 104 = .ok (.ireturn, 1) := by decide +kernel
theorem dX6_letsGo_0 : decode cX6_letsGo 0 = .ok (.iload_n 1, 1) := by decide +kernel
theorem dX6_letsGo_1 : decode cX6_letsGo 1 = .ok (.ifCond .lt 16, 3) := by decide +kernel
theorem dX6_letsGo_4 : decode cX6_letsGo 4 = .ok (.iload_n 1, 1) := by decide +kernel
theorem dX6_letsGo_5 : decode cX6_letsGo 5 = .ok (.iconst 1, 1) := by decide +kernel
theorem dX6_letsGo_6 : decode cX6_letsGo 6 = .ok (.aload_n 0, 1) := by decide +kernel
theorem dX6_letsGo_7 : decode cX6_letsGo 7 = .ok (.getfield 19, 3) := by decide +kernel
theorem dX6_letsGo_10 : decode cX6_letsGo 10 = .ok (.getfield 103, 3) := by decide +kernel
theorem dX6_letsGo_13 : decode cX6_letsGo 13 = .ok (.ishl, 1) := by decide +kernel
theorem dX6_letsGo_14 : decode cX6_letsGo 14 = .ok (.if_icmp .lt 6, 3) := by decide +kernel
theorem dX6_letsGo_17 : decode cX6_letsGo 17 = .ok (.bipush (-2), 2) := by decide +kernel
theorem dX6_letsGo_19 : decode cX6_letsGo 19 = .ok (.ireturn, 1) := by decide +kernel
theorem dX6_letsGo_20 : decode cX6_letsGo 20 = .ok (.bipush (-9), 2) := by decide +kernel
theorem dX6_letsGo_22 : decode cX6_letsGo 22 = .ok (.istore_n 2, 1) := by decide +kernel
theorem dX6_letsGo_23 : decode cX6_letsGo 23 = .ok (.iconst 0, 1) := by decide +kernel
theorem dX6_letsGo_24 : decode cX6_letsGo 24 = .ok (.istore_n 3, 1) := by decide +kernel
theorem dX6_letsGo_25 : decode cX6_letsGo 25 = .ok (.iload_n 3, 1) := by decide +kernel
theorem dX6_letsGo_26 : decode cX6_letsGo 26 = .ok (.aload_n 0, 1) := by decide +kernel
theorem dX6_letsGo_27 : decode cX6_letsGo 27 = .ok (.getfield 19, 3) := by decide +kernel
theorem dX6_letsGo_30 : decode cX6_letsGo 30 = .ok (.invokevirtual 184, 3) := by decide +kernel
theorem dX6_letsGo_33 : decode cX6_letsGo 33 = .ok (.if_icmp .gt 42, 3) := by decide +kernel
theorem dX6_letsGo_36 : decode cX6_letsGo 36 = .ok (.aload_n 0, 1) := by decide +kernel
theorem dX6_letsGo_37 : decode cX6_letsGo 37 = .ok (.iload_n 3, 1) := by decide +kernel
theorem dX6_letsGo_38 : decode cX6_letsGo 38 = .ok (.iload_n 2, 1) := by decide +kernel
theorem dX6_letsGo_39 : decode cX6_letsGo 39 = .ok (.invokevirtual 187, 3) := by decide +kernel
theorem dX6_letsGo_42 : decode cX6_letsGo 42 = .ok (.ifCond .eq 27, 3) := by decide +kernel
theorem dX6_letsGo_45 : decode cX6_letsGo 45 = .ok (.aload_n 0, 1) := by decide +kernel
theorem dX6_letsGo_46 : decode cX6_letsGo 46 = .ok (.getfield 19, 3) := by decide +kernel
theorem dX6_letsGo_49 : decode cX6_letsGo 49 = .ok (.aload_n 0, 1) := by decide +kernel
theorem dX6_letsGo_50 : decode cX6_letsGo 50 = .ok (.getfield 35, 3) := by decide +kernel
theorem dX6_letsGo_53 : decode cX6_letsGo 53 = .ok (.getfield 135, 3) := by decide +kernel
theorem dX6_letsGo_56 : decode cX6_letsGo 56 = .ok (.iload_n 3, 1) := by decide +kernel
theorem dX6_letsGo_57 : decode cX6_letsGo 57 = .ok (.ior, 1) := by decide +kernel
theorem dX6_letsGo_58 : decode cX6_letsGo 58 = .ok (.invokevirtual 199, 3) := by decide +kernel
theorem dX6_letsGo_61 : decode cX6_letsGo 61 = .ok (.iload_n 1, 1) := by decide +kernel
theorem dX6_letsGo_62 : decode cX6_letsGo 62 = .ok (.iand, 1) := by decide +kernel
theorem dX6_letsGo_63 : decode cX6_letsGo 63 = .ok (.iload_n 1, 1) := by decide +kernel
theorem dX6_letsGo_64 : decode cX6_letsGo 64 = .ok (.if_icmp .ne 5, 3) := by decide +kernel
theorem dX6_letsGo_67 : decode cX6_letsGo 67 = .ok (.iload_n 3, 1) := by decide +kernel
theorem dX6_letsGo_68 : decode cX6_letsGo 68 = .ok (.istore_n 2, 1) := by decide +kernel
theorem dX6_letsGo_69 : decode cX6_letsGo 69 = .ok (.iinc 3 1, 3) := by decide +kernel
theorem dX6_letsGo_72 : decode cX6_letsGo 72 = .ok (.goto (-47), 3) := by decide +kernel
theorem dX6_letsGo_75 : decode cX6_letsGo 75 = .ok (.iload_n 2, 1) := by decide +kernel
theorem dX6_letsGo_76 : decode cX6_letsGo 76 = .ok (.ireturn, 1) := by decide +kernel
theorem dX6_judge_0 : decode cX6_judge 0 = .ok (.iload_n 1, 1) := by decide +kernel
theorem dX6_judge_1 : decode cX6_judge 1 = .ok (.iconst 1, 1) := by decide +kernel
theorem dX6_judge_2 : decode cX6_judge 2 = .ok (.if_icmp .lt 24, 3) := by decide +kernel
theorem dX6_judge_5 : decode cX6_judge 5 = .ok (.iload_n 1, 1) := by decide +kernel
theorem dX6_judge_6 : decode cX6_judge 6 = .ok (.iconst 4, 1) := by decide +kernel
theorem dX6_judge_7 : decode cX6_judge 7 = .ok (.if_icmp .gt 19, 3) := by decide +kernel
theorem dX6_judge_10 : decode cX6_judge 10 = .ok (.lload_n 2, 1) := by decide +kernel
theorem dX6_judge_11 : decode cX6_judge 11 = .ok (.lconst 0, 1) := by decide +kernel
theorem dX6_judge_12 : decode cX6_judge 12 = .ok (.lcmp, 1) := by decide +kernel
theorem dX6_judge_13 : decode cX6_judge 13 = .ok (.ifCond .lt 13, 3) := by decide +kernel
theorem dX6_judge_16 : decode cX6_judge 16 = .ok (.lload_n 2, 1) := by decide +kernel
theorem dX6_judge_17 : decode cX6_judge 17 = .ok (.getstatic 202, 3) := by decide +kernel
theorem dX6_judge_20 : decode cX6_judge 20 = .ok (.iload_n 1, 1) := by decide +kernel
theorem dX6_judge_21 : decode cX6_judge 21 = .ok (.laload, 1) := by decide +kernel
theorem dX6_judge_22 : decode cX6_judge 22 = .ok (.lcmp, 1) := by decide +kernel
theorem dX6_judge_23 : decode cX6_judge 23 = .ok (.ifCond .lt 6, 3) := by decide +kernel
theorem dX6_judge_26 : decode cX6_judge 26 = .ok (.bipush (-2), 2) := by decide +kernel
theorem dX6_judge_28 : decode cX6_judge 28 = .ok (.ireturn, 1) := by decide +kernel
theorem dX6_judge_29 : decode cX6_judge 29 = .ok (.aload_n 0, 1) := by decide +kernel
theorem dX6_judge_30 : decode cX6_judge 30 = .ok (.getfield 39, 3) := by decide +kernel
theorem dX6_judge_33 : decode cX6_judge 33 = .ok (.aload_n 0, 1) := by decide +kernel
theorem dX6_judge_34 : decode cX6_judge 34 = .ok (.getfield 35, 3) := by decide +kernel
theorem dX6_judge_37 : decode cX6_judge 37 = .ok (.invokevirtual 169, 3) := by decide +kernel
theorem dX6_judge_40 : decode cX6_judge 40 = .ok (.iconst 0, 1) := by decide +kernel
theorem dX6_judge_41 : decode cX6_judge 41 = .ok (.istore 4, 2) := by decide +kernel
theorem dX6_judge_43 : decode cX6_judge 43 = .ok (.iload 4, 2) := by decide +kernel
theorem dX6_judge_45 : decode cX6_judge 45 = .ok (.iload_n 1, 1) := by decide +kernel
theorem dX6_judge_46 : decode cX6_judge 46 = .ok (.if_icmp .ge 56, 3) := by decide +kernel
theorem dX6_judge_49 : decode cX6_judge 49 = .ok (.lload_n 2, 1) := by decide +kernel
theorem dX6_judge_50 : decode cX6_judge 50 = .ok (.getstatic 202, 3) := by decide +kernel
theorem dX6_judge_53 : decode cX6_judge 53 = .ok (.iload_n 1, 1) := by decide +kernel
theorem dX6_judge_54 : decode cX6_judge 54 = .ok (.iconst 1, 1) := by decide +kernel
theorem dX6_judge_55 : decode cX6_judge 55 = .ok (.isub, 1) := by decide +kernel
theorem dX6_judge_56 : decode cX6_judge 56 = .ok (.iload 4, 2) := by decide +kernel
theorem dX6_judge_58 : decode cX6_judge 58 = .ok (.isub, 1) := by decide +kernel
theorem dX6_judge_59 : decode cX6_judge 59 = .ok (.laload, 1) := by decide +kernel
theorem dX6_judge_60 : decode cX6_judge 60 = .ok (.ldiv, 1) := by decide +kernel
theorem dX6_judge_61 : decode cX6_judge 61 = .ok (.ldc2_w 206, 3) := by decide +kernel
theorem dX6_judge_64 : decode cX6_judge 64 = .ok (.lrem, 1) := by decide +kernel
theorem dX6_judge_65 : decode cX6_judge 65 = .ok (.l2i, 1) := by decide +kernel
theorem dX6_judge_66 : decode cX6_judge 66 = .ok (.istore 5, 2) := by decide +kernel
theorem dX6_judge_68 : decode cX6_judge 68 = .ok (.aload_n 0, 1) := by decide +kernel
theorem dX6_judge_69 : decode cX6_judge 69 = .ok (.iload 5, 2) := by decide +kernel
theorem dX6_judge_71 : decode cX6_judge 71 = .ok (.bipush 100, 2) := by decide +kernel
theorem dX6_judge_73 : decode cX6_judge 73 = .ok (.idiv, 1) := by decide +kernel
theorem dX6_judge_74 : decode cX6_judge 74 = .ok (.iload 5, 2) := by decide +kernel
theorem dX6_judge_76 : decode cX6_judge 76 = .ok (.bipush 10, 2) := by decide +kernel
theorem dX6_judge_78 : decode cX6_judge 78 = .ok (.idiv, 1) := by decide +kernel
theorem dX6_judge_79 : decode cX6_judge 79 = .ok (.bipush 10, 2) := by decide +kernel
theorem dX6_judge_81 : decode cX6_judge 81 = .ok (.irem, 1) := by decide +kernel
theorem dX6_judge_82 : decode cX6_judge 82 = .ok (.iload 5, 2) := by decide +kernel
theorem dX6_judge_84 : decode cX6_judge 84 = .ok (.bipush 10, 2) := by decide +kernel
theorem dX6_judge_86 : decode cX6_judge 86 = .ok (.irem, 1) := by decide +kernel
theorem dX6_judge_87 : decode cX6_judge 87 = .ok (.invokevirtual 208, 3) := by decide +kernel
theorem dX6_judge_90 : decode cX6_judge 90 = .ok (.ifCond .ne 6, 3) := by decide +kernel
theorem dX6_judge_93 : decode cX6_judge 93 = .ok (.iload 4, 2) := by decide +kernel
theorem dX6_judge_95 : decode cX6_judge 95 = .ok (.ireturn, 1) := by decide +kernel
theorem dX6_judge_96 : decode cX6_judge 96 = .ok (.iinc 4 1, 3) := by decide +kernel
theorem dX6_judge_99 : decode cX6_judge 99 = .ok (.goto (-56), 3) := by decide +kernel
theorem dX6_judge_102 : decode cX6_judge 102 = .ok (.bipush (-9), 2) := by decide +kernel
theorem dX6_judge_104 : decode cX6_judge 104 = .ok (.ireturn, 1) := by decide +kernel
theorem dX6_trial_0 : decode cX6_trial 0 = .ok (.iload_n 1, 1) := by decide +kernel
theorem dX6_trial_1 : decode cX6_trial 1 = .ok (.ifCond .lt 18, 3) := by decide +kernel
theorem dX6_trial_4 : decode cX6_trial 4 = .ok (.iload_n 1, 1) := by decide +kernel
theorem dX6_trial_5 : decode cX6_trial 5 = .ok (.bipush 12, 2) := by decide +kernel
theorem dX6_trial_7 : decode cX6_trial 7 = .ok (.if_icmp .gt 12, 3) := by decide +kernel
theorem dX6_trial_10 : decode cX6_trial 10 = .ok (.iload_n 2, 1) := by decide +kernel
theorem dX6_trial_11 : decode cX6_trial 11 = .ok (.ifCond .lt 8, 3) := by decide +kernel
theorem dX6_trial_14 : decode cX6_trial 14 = .ok (.iload_n 2, 1) := by decide +kernel
theorem dX6_trial_15 : decode cX6_trial 15 = .ok (.iconst 1, 1) := by decide +kernel
theorem dX6_trial_16 : decode cX6_trial 16 = .ok (.if_icmp .le 6, 3) := by decide +kernel
theorem dX6_trial_19 : decode cX6_trial 19 = .ok (.bipush (-2), 2) := by decide +kernel
theorem dX6_trial_21 : decode cX6_trial 21 = .ok (.ireturn, 1) := by decide +kernel
theorem dX6_trial_22 : decode cX6_trial 22 = .ok (.aload_n 0, 1) := by decide +kernel
theorem dX6_trial_23 : decode cX6_trial 23 = .ok (.getfield 60, 3) := by decide +kernel
theorem dX6_trial_26 : decode cX6_trial 26 = .ok (.getfield 211, 3) := by decide +kernel
theorem dX6_trial_29 : decode cX6_trial 29 = .ok (.bipush 6, 2) := by decide +kernel
theorem dX6_trial_31 : decode cX6_trial 31 = .ok (.if_icmp .lt 6, 3) := by decide +kernel
theorem dX6_trial_34 : decode cX6_trial 34 = .ok (.bipush (-4), 2) := by decide +kernel
theorem dX6_trial_36 : decode cX6_trial 36 = .ok (.ireturn, 1) := by decide +kernel
theorem dX6_trial_37 : decode cX6_trial 37 = .ok (.aload_n 0, 1) := by decide +kernel
theorem dX6_trial_38 : decode cX6_trial 38 = .ok (.getfield 60, 3) := by decide +kernel
theorem dX6_trial_41 : decode cX6_trial 41 = .ok (.iload_n 1, 1) := by decide +kernel
theorem dX6_trial_42 : decode cX6_trial 42 = .ok (.iload_n 2, 1) := by decide +kernel
theorem dX6_trial_43 : decode cX6_trial 43 = .ok (.iconst 1, 1) := by decide +kernel
theorem dX6_trial_44 : decode cX6_trial 44 = .ok (.if_icmp .ne 7, 3) := by decide +kernel
theorem dX6_trial_47 : decode cX6_trial 47 = .ok (.iconst 1, 1) := by decide +kernel
theorem dX6_trial_48 : decode cX6_trial 48 = .ok (.goto 4, 3) := by decide +kernel
theorem dX6_trial_51 : decode cX6_trial 51 = .ok (.iconst 0, 1) := by decide +kernel
theorem dX6_trial_52 : decode cX6_trial 52 = .ok (.invokevirtual 212, 3) := by decide +kernel
theorem dX6_trial_55 : decode cX6_trial 55 = .ok (.aload_n 0, 1) := by decide +kernel
theorem dX6_trial_56 : decode cX6_trial 56 = .ok (.getfield 60, 3) := by decide +kernel
theorem dX6_trial_59 : decode cX6_trial 59 = .ok (.getfield 211, 3) := by decide +kernel
theorem dX6_trial_62 : decode cX6_trial 62 = .ok (.ireturn, 1) := by decide +kernel
theorem dX6_untry_0 : decode cX6_untry 0 = .ok (.aload_n 0, 1) := by decide +kernel
theorem dX6_untry_1 : decode cX6_untry 1 = .ok (.getfield 60, 3) := by decide +kernel
theorem dX6_untry_4 : decode cX6_untry 4 = .ok (.getfield 211, 3) := by decide +kernel
theorem dX6_untry_7 : decode cX6_untry 7 = .ok (.istore_n 1, 1) := by decide +kernel
theorem dX6_untry_8 : decode cX6_untry 8 = .ok (.aload_n 0, 1) := by decide +kernel
theorem dX6_untry_9 : decode cX6_untry 9 = .ok (.getfield 60, 3) := by decide +kernel
theorem dX6_untry_12 : decode cX6_untry 12 = .ok (.iconst 0, 1) := by decide +kernel
theorem dX6_untry_13 : decode cX6_untry 13 = .ok (.putfield 211, 3) := by decide +kernel
theorem dX6_untry_16 : decode cX6_untry 16 = .ok (.iload_n 1, 1) := by decide +kernel
theorem dX6_untry_17 : decode cX6_untry 17 = .ok (.ireturn, 1) := by decide +kernel
theorem dX6_which_0 : decode cX6_which 0 = .ok (.iload_n 1, 1) := by decide +kernel
theorem dX6_which_1 : decode cX6_which 1 = .ok (.ifCond .lt 8, 3) := by decide +kernel
theorem dX6_which_4 : decode cX6_which 4 = .ok (.iload_n 1, 1) := by decide +kernel
theorem dX6_which_5 : decode cX6_which 5 = .ok (.iconst 1, 1) := by decide +kernel
theorem dX6_which_6 : decode cX6_which 6 = .ok (.if_icmp .le 6, 3) := by decide +kernel
theorem dX6_which_9 : decode cX6_which 9 = .ok (.bipush (-2), 2) := by decide +kernel
theorem dX6_which_11 : decode cX6_which 11 = .ok (.ireturn, 1) := by decide +kernel
theorem dX6_which_12 : decode cX6_which 12 = .ok (.iconst 0, 1) := by decide +kernel
theorem dX6_which_13 : decode cX6_which 13 = .ok (.istore_n 2, 1) := by decide +kernel
theorem dX6_which_14 : decode cX6_which 14 = .ok (.bipush (-9), 2) := by decide +kernel
theorem dX6_which_16 : decode cX6_which 16 = .ok (.istore_n 3, 1) := by decide +kernel
theorem dX6_which_17 : decode cX6_which 17 = .ok (.iconst 0, 1) := by decide +kernel
theorem dX6_which_18 : decode cX6_which 18 = .ok (.istore 4, 2) := by decide +kernel
theorem dX6_which_20 : decode cX6_which 20 = .ok (.iload 4, 2) := by decide +kernel
theorem dX6_which_22 : decode cX6_which 22 = .ok (.bipush 20, 2) := by decide +kernel
theorem dX6_which_24 : decode cX6_which 24 = .ok (.if_icmp .ge 43, 3) := by decide +kernel
theorem dX6_which_27 : decode cX6_which 27 = .ok (.aload_n 0, 1) := by decide +kernel
theorem dX6_which_28 : decode cX6_which 28 = .ok (.getfield 60, 3) := by decide +kernel
theorem dX6_which_31 : decode cX6_which 31 = .ok (.iload 4, 2) := by decide +kernel
theorem dX6_which_33 : decode cX6_which 33 = .ok (.bipush 10, 2) := by decide +kernel
theorem dX6_which_35 : decode cX6_which 35 = .ok (.idiv, 1) := by decide +kernel
theorem dX6_which_36 : decode cX6_which 36 = .ok (.iload 4, 2) := by decide +kernel
theorem dX6_which_38 : decode cX6_which 38 = .ok (.bipush 10, 2) := by decide +kernel
theorem dX6_which_40 : decode cX6_which 40 = .ok (.irem, 1) := by decide +kernel
theorem dX6_which_41 : decode cX6_which 41 = .ok (.invokevirtual 215, 3) := by decide +kernel
theorem dX6_which_44 : decode cX6_which 44 = .ok (.ifCond .eq 17, 3) := by decide +kernel
theorem dX6_which_47 : decode cX6_which 47 = .ok (.iload_n 2, 1) := by decide +kernel
theorem dX6_which_48 : decode cX6_which 48 = .ok (.ifCond .ne 8, 3) := by decide +kernel
theorem dX6_which_51 : decode cX6_which 51 = .ok (.iload 4, 2) := by decide +kernel
theorem dX6_which_53 : decode cX6_which 53 = .ok (.goto 4, 3) := by decide +kernel
theorem dX6_which_56 : decode cX6_which 56 = .ok (.iload_n 3, 1) := by decide +kernel
theorem dX6_which_57 : decode cX6_which 57 = .ok (.istore_n 3, 1) := by decide +kernel
theorem dX6_which_58 : decode cX6_which 58 = .ok (.iinc 2 1, 3) := by decide +kernel
theorem dX6_which_61 : decode cX6_which 61 = .ok (.iinc 4 1, 3) := by decide +kernel
theorem dX6_which_64 : decode cX6_which 64 = .ok (.goto (-44), 3) := by decide +kernel
theorem dX6_which_67 : decode cX6_which 67 = .ok (.iload_n 1, 1) := by decide +kernel
theorem dX6_which_68 : decode cX6_which 68 = .ok (.ifCond .ne 7, 3) := by decide +kernel
theorem dX6_which_71 : decode cX6_which 71 = .ok (.iload_n 2, 1) := by decide +kernel
theorem dX6_which_72 : decode cX6_which 72 = .ok (.goto 4, 3) := by decide +kernel
theorem dX6_which_75 : decode cX6_which 75 = .ok (.iload_n 3, 1) := by decide +kernel
theorem dX6_which_76 : decode cX6_which 76 = .ok (.ireturn, 1) := by decide +kernel
theorem dX6_share_0 : decode cX6_share 0 = .ok (.aload_n 0, 1) := by decide +kernel
theorem dX6_share_1 : decode cX6_share 1 = .ok (.iload_n 1, 1) := by decide +kernel
theorem dX6_share_2 : decode cX6_share 2 = .ok (.invokevirtual 106, 3) := by decide +kernel
theorem dX6_share_5 : decode cX6_share 5 = .ok (.ifCond .ne 5, 3) := by decide +kernel
theorem dX6_share_8 : decode cX6_share 8 = .ok (.iconst (-1), 1) := by decide +kernel
theorem dX6_share_9 : decode cX6_share 9 = .ok (.ireturn, 1) := by decide +kernel
theorem dX6_share_10 : decode cX6_share 10 = .ok (.aload_n 0, 1) := by decide +kernel
theorem dX6_share_11 : decode cX6_share 11 = .ok (.getfield 19, 3) := by decide +kernel
theorem dX6_share_14 : decode cX6_share 14 = .ok (.invokevirtual 184, 3) := by decide +kernel
theorem dX6_share_17 : decode cX6_share 17 = .ok (.aload_n 0, 1) := by decide +kernel
theorem dX6_share_18 : decode cX6_share 18 = .ok (.getfield 35, 3) := by decide +kernel
theorem dX6_share_21 : decode cX6_share 21 = .ok (.getfield 135, 3) := by decide +kernel
theorem dX6_share_24 : decode cX6_share 24 = .ok (.iconst (-1), 1) := by decide +kernel
theorem dX6_share_25 : decode cX6_share 25 = .ok (.ixor, 1) := by decide +kernel
theorem dX6_share_26 : decode cX6_share 26 = .ok (.iand, 1) := by decide +kernel
theorem dX6_share_27 : decode cX6_share 27 = .ok (.istore_n 3, 1) := by decide +kernel
theorem dX6_share_28 : decode cX6_share 28 = .ok (.iload_n 3, 1) := by decide +kernel
theorem dX6_share_29 : decode cX6_share 29 = .ok (.iconst 1, 1) := by decide +kernel
theorem dX6_share_30 : decode cX6_share 30 = .ok (.iload_n 1, 1) := by decide +kernel
theorem dX6_share_31 : decode cX6_share 31 = .ok (.ishl, 1) := by decide +kernel
theorem dX6_share_32 : decode cX6_share 32 = .ok (.iand, 1) := by decide +kernel
theorem dX6_share_33 : decode cX6_share 33 = .ok (.ifCond .ne 10, 3) := by decide +kernel
theorem dX6_share_36 : decode cX6_share 36 = .ok (.lconst 0, 1) := by decide +kernel
theorem dX6_share_37 : decode cX6_share 37 = .ok (.lconst 1, 1) := by decide +kernel
theorem dX6_share_38 : decode cX6_share 38 = .ok (.iload_n 2, 1) := by decide +kernel
theorem dX6_share_39 : decode cX6_share 39 = .ok (.invokestatic 218, 3) := by decide +kernel
theorem dX6_share_42 : decode cX6_share 42 = .ok (.ireturn, 1) := by decide +kernel
theorem dX6_share_43 : decode cX6_share 43 = .ok (.iload_n 3, 1) := by decide +kernel
theorem dX6_share_44 : decode cX6_share 44 = .ok (.invokestatic 156, 3) := by decide +kernel
theorem dX6_share_47 : decode cX6_share 47 = .ok (.istore 4, 2) := by decide +kernel
theorem dX6_share_49 : decode cX6_share 49 = .ok (.aload_n 0, 1) := by decide +kernel
theorem dX6_share_50 : decode cX6_share 50 = .ok (.iload_n 1, 1) := by decide +kernel
theorem dX6_share_51 : decode cX6_share 51 = .ok (.iload_n 3, 1) := by decide +kernel
theorem dX6_share_52 : decode cX6_share 52 = .ok (.iload 4, 2) := by decide +kernel
theorem dX6_share_54 : decode cX6_share 54 = .ok (.invokevirtual 222, 3) := by decide +kernel
theorem dX6_share_57 : decode cX6_share 57 = .ok (.getstatic 226, 3) := by decide +kernel
theorem dX6_share_60 : decode cX6_share 60 = .ok (.iload 4, 2) := by decide +kernel
theorem dX6_share_62 : decode cX6_share 62 = .ok (.iaload, 1) := by decide +kernel
theorem dX6_share_63 : decode cX6_share 63 = .ok (.i2l, 1) := by decide +kernel
theorem dX6_share_64 : decode cX6_share 64 = .ok (.iload_n 2, 1) := by decide +kernel
theorem dX6_share_65 : decode cX6_share 65 = .ok (.invokestatic 218, 3) := by decide +kernel
theorem dX6_share_68 : decode cX6_share 68 = .ok (.ireturn, 1) := by decide +kernel
theorem dX6_rests_0 : decode cX6_rests 0 = .ok (.iload_n 1, 1) := by decide +kernel
theorem dX6_rests_1 : decode cX6_rests 1 = .ok (.iload_n 2, 1) := by decide +kernel
theorem dX6_rests_2 : decode cX6_rests 2 = .ok (.invokestatic 181, 3) := by decide +kernel
theorem dX6_rests_5 : decode cX6_rests 5 = .ok (.istore 4, 2) := by decide +kernel
theorem dX6_rests_7 : decode cX6_rests 7 = .ok (.iload 4, 2) := by decide +kernel
theorem dX6_rests_9 : decode cX6_rests 9 = .ok (.ifCond .eq 6, 3) := by decide +kernel
theorem dX6_rests_12 : decode cX6_rests 12 = .ok (.iload 4, 2) := by decide +kernel
theorem dX6_rests_14 : decode cX6_rests 14 = .ok (.ireturn, 1) := by decide +kernel
theorem dX6_rests_15 : decode cX6_rests 15 = .ok (.iload_n 3, 1) := by decide +kernel
theorem dX6_rests_16 : decode cX6_rests 16 = .ok (.ifCond .lt 8, 3) := by decide +kernel
theorem dX6_rests_19 : decode cX6_rests 19 = .ok (.iload_n 3, 1) := by decide +kernel
theorem dX6_rests_20 : decode cX6_rests 20 = .ok (.iconst 1, 1) := by decide +kernel
theorem dX6_rests_21 : decode cX6_rests 21 = .ok (.if_icmp .le 6, 3) := by decide +kernel
theorem dX6_rests_24 : decode cX6_rests 24 = .ok (.bipush (-2), 2) := by decide +kernel
theorem dX6_rests_26 : decode cX6_rests 26 = .ok (.ireturn, 1) := by decide +kernel
theorem dX6_rests_27 : decode cX6_rests 27 = .ok (.aload_n 0, 1) := by decide +kernel
theorem dX6_rests_28 : decode cX6_rests 28 = .ok (.iload_n 1, 1) := by decide +kernel
theorem dX6_rests_29 : decode cX6_rests 29 = .ok (.iload_n 2, 1) := by decide +kernel
theorem dX6_rests_30 : decode cX6_rests 30 = .ok (.invokevirtual 229, 3) := by decide +kernel
theorem dX6_rests_33 : decode cX6_rests 33 = .ok (.iconst 0, 1) := by decide +kernel
theorem dX6_rests_34 : decode cX6_rests 34 = .ok (.istore 5, 2) := by decide +kernel
theorem dX6_rests_36 : decode cX6_rests 36 = .ok (.bipush (-9), 2) := by decide +kernel
theorem dX6_rests_38 : decode cX6_rests 38 = .ok (.istore 6, 2) := by decide +kernel
theorem dX6_rests_40 : decode cX6_rests 40 = .ok (.iconst 0, 1) := by decide +kernel
theorem dX6_rests_41 : decode cX6_rests 41 = .ok (.istore 7, 2) := by decide +kernel
theorem dX6_rests_43 : decode cX6_rests 43 = .ok (.iload 7, 2) := by decide +kernel
theorem dX6_rests_45 : decode cX6_rests 45 = .ok (.iconst 3, 1) := by decide +kernel
theorem dX6_rests_46 : decode cX6_rests 46 = .ok (.if_icmp .ge 58, 3) := by decide +kernel
theorem dX6_rests_49 : decode cX6_rests 49 = .ok (.iconst 0, 1) := by decide +kernel
theorem dX6_rests_50 : decode cX6_rests 50 = .ok (.istore 8, 2) := by decide +kernel
theorem dX6_rests_52 : decode cX6_rests 52 = .ok (.iload 8, 2) := by decide +kernel
theorem dX6_rests_54 : decode cX6_rests 54 = .ok (.iconst 3, 1) := by decide +kernel
theorem dX6_rests_55 : decode cX6_rests 55 = .ok (.if_icmp .ge 43, 3) := by decide +kernel
theorem dX6_rests_58 : decode cX6_rests 58 = .ok (.aload_n 0, 1) := by decide +kernel
theorem dX6_rests_59 : decode cX6_rests 59 = .ok (.iload 7, 2) := by decide +kernel
theorem dX6_rests_61 : decode cX6_rests 61 = .ok (.iload 8, 2) := by decide +kernel
theorem dX6_rests_63 : decode cX6_rests 63 = .ok (.invokevirtual 233, 3) := by decide +kernel
theorem dX6_rests_66 : decode cX6_rests 66 = .ok (.ifCond .eq 26, 3) := by decide +kernel
theorem dX6_rests_69 : decode cX6_rests 69 = .ok (.iload 5, 2) := by decide +kernel
theorem dX6_rests_71 : decode cX6_rests 71 = .ok (.ifCond .ne 14, 3) := by decide +kernel
theorem dX6_rests_74 : decode cX6_rests 74 = .ok (.bipush 10, 2) := by decide +kernel
theorem dX6_rests_76 : decode cX6_rests 76 = .ok (.iload 7, 2) := by decide +kernel
theorem dX6_rests_78 : decode cX6_rests 78 = .ok (.imul, 1) := by decide +kernel
theorem dX6_rests_79 : decode cX6_rests 79 = .ok (.iload 8, 2) := by decide +kernel
theorem dX6_rests_81 : decode cX6_rests 81 = .ok (.iadd, 1) := by decide +kernel
theorem dX6_rests_82 : decode cX6_rests 82 = .ok (.goto 5, 3) := by decide +kernel
theorem dX6_rests_85 : decode cX6_rests 85 = .ok (.iload 6, 2) := by decide +kernel
theorem dX6_rests_87 : decode cX6_rests 87 = .ok (.istore 6, 2) := by decide +kernel
theorem dX6_rests_89 : decode cX6_rests 89 = .ok (.iinc 5 1, 3) := by decide +kernel
theorem dX6_rests_92 : decode cX6_rests 92 = .ok (.iinc 8 1, 3) := by decide +kernel
theorem dX6_rests_95 : decode cX6_rests 95 = .ok (.goto (-43), 3) := by decide +kernel
theorem dX6_rests_98 : decode cX6_rests 98 = .ok (.iinc 7 1, 3) := by decide +kernel
theorem dX6_rests_101 : decode cX6_rests 101 = .ok (.goto (-58), 3) := by decide +kernel
theorem dX6_rests_104 : decode cX6_rests 104 = .ok (.iload_n 3, 1) := by decide +kernel
theorem dX6_rests_105 : decode cX6_rests 105 = .ok (.ifCond .ne 8, 3) := by decide +kernel
theorem dX6_rests_108 : decode cX6_rests 108 = .ok (.iload 5, 2) := by decide +kernel
theorem dX6_rests_110 : decode cX6_rests 110 = .ok (.goto 5, 3) := by decide +kernel
theorem dX6_rests_113 : decode cX6_rests 113 = .ok (.iload 6, 2) := by decide +kernel
theorem dX6_rests_115 : decode cX6_rests 115 = .ok (.ireturn, 1) := by decide +kernel
theorem dX6_gives_0 : decode cX6_gives 0 = .ok (.iload_n 1, 1) := by decide +kernel
theorem dX6_gives_1 : decode cX6_gives 1 = .ok (.iload_n 2, 1) := by decide +kernel
theorem dX6_gives_2 : decode cX6_gives 2 = .ok (.invokestatic 181, 3) := by decide +kernel
theorem dX6_gives_5 : decode cX6_gives 5 = .ok (.istore 5, 2) := by decide +kernel
theorem dX6_gives_7 : decode cX6_gives 7 = .ok (.iload 5, 2) := by decide +kernel
theorem dX6_gives_9 : decode cX6_gives 9 = .ok (.ifCond .eq 6, 3) := by decide +kernel
theorem dX6_gives_12 : decode cX6_gives 12 = .ok (.iload 5, 2) := by decide +kernel
theorem dX6_gives_14 : decode cX6_gives 14 = .ok (.ireturn, 1) := by decide +kernel
theorem dX6_gives_15 : decode cX6_gives 15 = .ok (.iload_n 3, 1) := by decide +kernel
theorem dX6_gives_16 : decode cX6_gives 16 = .ok (.ifCond .lt 9, 3) := by decide +kernel
theorem dX6_gives_19 : decode cX6_gives 19 = .ok (.iload_n 3, 1) := by decide +kernel
theorem dX6_gives_20 : decode cX6_gives 20 = .ok (.bipush 10, 2) := by decide +kernel
theorem dX6_gives_22 : decode cX6_gives 22 = .ok (.if_icmp .le 6, 3) := by decide +kernel
theorem dX6_gives_25 : decode cX6_gives 25 = .ok (.bipush (-2), 2) := by decide +kernel
theorem dX6_gives_27 : decode cX6_gives 27 = .ok (.ireturn, 1) := by decide +kernel
theorem dX6_gives_28 : decode cX6_gives 28 = .ok (.aload_n 0, 1) := by decide +kernel
theorem dX6_gives_29 : decode cX6_gives 29 = .ok (.getfield 19, 3) := by decide +kernel
theorem dX6_gives_32 : decode cX6_gives 32 = .ok (.invokevirtual 184, 3) := by decide +kernel
theorem dX6_gives_35 : decode cX6_gives 35 = .ok (.aload_n 0, 1) := by decide +kernel
theorem dX6_gives_36 : decode cX6_gives 36 = .ok (.getfield 35, 3) := by decide +kernel
theorem dX6_gives_39 : decode cX6_gives 39 = .ok (.getfield 135, 3) := by decide +kernel
theorem dX6_gives_42 : decode cX6_gives 42 = .ok (.iconst (-1), 1) := by decide +kernel
theorem dX6_gives_43 : decode cX6_gives 43 = .ok (.ixor, 1) := by decide +kernel
theorem dX6_gives_44 : decode cX6_gives 44 = .ok (.iand, 1) := by decide +kernel
theorem dX6_gives_45 : decode cX6_gives 45 = .ok (.istore 6, 2) := by decide +kernel
theorem dX6_gives_47 : decode cX6_gives 47 = .ok (.bipush 10, 2) := by decide +kernel
theorem dX6_gives_49 : decode cX6_gives 49 = .ok (.iload 6, 2) := by decide +kernel
theorem dX6_gives_51 : decode cX6_gives 51 = .ok (.invokestatic 156, 3) := by decide +kernel
theorem dX6_gives_54 : decode cX6_gives 54 = .ok (.invokestatic 236, 3) := by decide +kernel
theorem dX6_gives_57 : decode cX6_gives 57 = .ok (.lstore 7, 2) := by decide +kernel
theorem dX6_gives_59 : decode cX6_gives 59 = .ok (.lconst 0, 1) := by decide +kernel
theorem dX6_gives_60 : decode cX6_gives 60 = .ok (.lstore 9, 2) := by decide +kernel
theorem dX6_gives_62 : decode cX6_gives 62 = .ok (.iconst 0, 1) := by decide +kernel
theorem dX6_gives_63 : decode cX6_gives 63 = .ok (.istore 11, 2) := by decide +kernel
theorem dX6_gives_65 : decode cX6_gives 65 = .ok (.iload 11, 2) := by decide +kernel
theorem dX6_gives_67 : decode cX6_gives 67 = .ok (.aload_n 0, 1) := by decide +kernel
theorem dX6_gives_68 : decode cX6_gives 68 = .ok (.getfield 19, 3) := by decide +kernel
theorem dX6_gives_71 : decode cX6_gives 71 = .ok (.invokevirtual 184, 3) := by decide +kernel
theorem dX6_gives_74 : decode cX6_gives 74 = .ok (.if_icmp .gt 77, 3) := by decide +kernel
theorem dX6_gives_77 : decode cX6_gives 77 = .ok (.iload 11, 2) := by decide +kernel
theorem dX6_gives_79 : decode cX6_gives 79 = .ok (.iload 6, 2) := by decide +kernel
theorem dX6_gives_81 : decode cX6_gives 81 = .ok (.iconst (-1), 1) := by decide +kernel
theorem dX6_gives_82 : decode cX6_gives 82 = .ok (.ixor, 1) := by decide +kernel
theorem dX6_gives_83 : decode cX6_gives 83 = .ok (.iand, 1) := by decide +kernel
theorem dX6_gives_84 : decode cX6_gives 84 = .ok (.ifCond .ne 61, 3) := by decide +kernel
theorem dX6_gives_87 : decode cX6_gives 87 = .ok (.aload_n 0, 1) := by decide +kernel
theorem dX6_gives_88 : decode cX6_gives 88 = .ok (.getfield 19, 3) := by decide +kernel
theorem dX6_gives_91 : decode cX6_gives 91 = .ok (.iload_n 1, 1) := by decide +kernel
theorem dX6_gives_92 : decode cX6_gives 92 = .ok (.iload_n 2, 1) := by decide +kernel
theorem dX6_gives_93 : decode cX6_gives 93 = .ok (.aload_n 0, 1) := by decide +kernel
theorem dX6_gives_94 : decode cX6_gives 94 = .ok (.getfield 35, 3) := by decide +kernel
theorem dX6_gives_97 : decode cX6_gives 97 = .ok (.getfield 135, 3) := by decide +kernel
theorem dX6_gives_100 : decode cX6_gives 100 = .ok (.iload 11, 2) := by decide +kernel
theorem dX6_gives_102 : decode cX6_gives 102 = .ok (.ior, 1) := by decide +kernel
theorem dX6_gives_103 : decode cX6_gives 103 = .ok (.invokevirtual 191, 3) := by decide +kernel
theorem dX6_gives_106 : decode cX6_gives 106 = .ok (.ifCond .eq 39, 3) := by decide +kernel
theorem dX6_gives_109 : decode cX6_gives 109 = .ok (.iload 6, 2) := by decide +kernel
theorem dX6_gives_111 : decode cX6_gives 111 = .ok (.iload 11, 2) := by decide +kernel
theorem dX6_gives_113 : decode cX6_gives 113 = .ok (.iconst (-1), 1) := by decide +kernel
theorem dX6_gives_114 : decode cX6_gives 114 = .ok (.ixor, 1) := by decide +kernel
theorem dX6_gives_115 : decode cX6_gives 115 = .ok (.iand, 1) := by decide +kernel
theorem dX6_gives_116 : decode cX6_gives 116 = .ok (.invokestatic 156, 3) := by decide +kernel
theorem dX6_gives_119 : decode cX6_gives 119 = .ok (.istore 12, 2) := by decide +kernel
theorem dX6_gives_121 : decode cX6_gives 121 = .ok (.lload 9, 2) := by decide +kernel
theorem dX6_gives_123 : decode cX6_gives 123 = .ok (.iload_n 3, 1) := by decide +kernel
theorem dX6_gives_124 : decode cX6_gives 124 = .ok (.iload 11, 2) := by decide +kernel
theorem dX6_gives_126 : decode cX6_gives 126 = .ok (.invokestatic 156, 3) := by decide +kernel
theorem dX6_gives_129 : decode cX6_gives 129 = .ok (.invokestatic 236, 3) := by decide +kernel
theorem dX6_gives_132 : decode cX6_gives 132 = .ok (.bipush 10, 2) := by decide +kernel
theorem dX6_gives_134 : decode cX6_gives 134 = .ok (.iload_n 3, 1) := by decide +kernel
theorem dX6_gives_135 : decode cX6_gives 135 = .ok (.isub, 1) := by decide +kernel
theorem dX6_gives_136 : decode cX6_gives 136 = .ok (.iload 12, 2) := by decide +kernel
theorem dX6_gives_138 : decode cX6_gives 138 = .ok (.invokestatic 236, 3) := by decide +kernel
theorem dX6_gives_141 : decode cX6_gives 141 = .ok (.lmul, 1) := by decide +kernel
theorem dX6_gives_142 : decode cX6_gives 142 = .ok (.ladd, 1) := by decide +kernel
theorem dX6_gives_143 : decode cX6_gives 143 = .ok (.lstore 9, 2) := by decide +kernel
theorem dX6_gives_145 : decode cX6_gives 145 = .ok (.iinc 11 1, 3) := by decide +kernel
theorem dX6_gives_148 : decode cX6_gives 148 = .ok (.goto (-83), 3) := by decide +kernel
theorem dX6_gives_151 : decode cX6_gives 151 = .ok (.lload 9, 2) := by decide +kernel
theorem dX6_gives_153 : decode cX6_gives 153 = .ok (.lload 7, 2) := by decide +kernel
theorem dX6_gives_155 : decode cX6_gives 155 = .ok (.iload 4, 2) := by decide +kernel
theorem dX6_gives_157 : decode cX6_gives 157 = .ok (.invokestatic 218, 3) := by decide +kernel
theorem dX6_gives_160 : decode cX6_gives 160 = .ok (.ireturn, 1) := by decide +kernel
theorem dX6_seed_0 : decode cX6_seed 0 = .ok (.aload_n 0, 1) := by decide +kernel
theorem dX6_seed_1 : decode cX6_seed 1 = .ok (.getfield 71, 3) := by decide +kernel
theorem dX6_seed_4 : decode cX6_seed 4 = .ok (.lstore_n 3, 1) := by decide +kernel
theorem dX6_seed_5 : decode cX6_seed 5 = .ok (.aload_n 0, 1) := by decide +kernel
theorem dX6_seed_6 : decode cX6_seed 6 = .ok (.lload_n 1, 1) := by decide +kernel
theorem dX6_seed_7 : decode cX6_seed 7 = .ok (.putfield 71, 3) := by decide +kernel
theorem dX6_seed_10 : decode cX6_seed 10 = .ok (.lload_n 3, 1) := by decide +kernel
theorem dX6_seed_11 : decode cX6_seed 11 = .ok (.lreturn, 1) := by decide +kernel
theorem dX6_seasons_0 : decode cX6_seasons 0 = .ok (.iload_n 1, 1) := by decide +kernel
theorem dX6_seasons_1 : decode cX6_seasons 1 = .ok (.iconst 1, 1) := by decide +kernel
theorem dX6_seasons_2 : decode cX6_seasons 2 = .ok (.if_icmp .lt 9, 3) := by decide +kernel
theorem dX6_seasons_5 : decode cX6_seasons 5 = .ok (.iload_n 1, 1) := by decide +kernel
theorem dX6_seasons_6 : decode cX6_seasons 6 = .ok (.bipush 30, 2) := by decide +kernel
theorem dX6_seasons_8 : decode cX6_seasons 8 = .ok (.if_icmp .le 6, 3) := by decide +kernel
theorem dX6_seasons_11 : decode cX6_seasons 11 = .ok (.bipush (-2), 2) := by decide +kernel
theorem dX6_seasons_13 : decode cX6_seasons 13 = .ok (.ireturn, 1) := by decide +kernel
theorem dX6_seasons_14 : decode cX6_seasons 14 = .ok (.aload_n 0, 1) := by decide +kernel
theorem dX6_seasons_15 : decode cX6_seasons 15 = .ok (.getfield 39, 3) := by decide +kernel
theorem dX6_seasons_18 : decode cX6_seasons 18 = .ok (.aload_n 0, 1) := by decide +kernel
theorem dX6_seasons_19 : decode cX6_seasons 19 = .ok (.getfield 35, 3) := by decide +kernel
theorem dX6_seasons_22 : decode cX6_seasons 22 = .ok (.invokevirtual 169, 3) := by decide +kernel
theorem dX6_seasons_25 : decode cX6_seasons 25 = .ok (.iconst 0, 1) := by decide +kernel
theorem dX6_seasons_26 : decode cX6_seasons 26 = .ok (.istore_n 2, 1) := by decide +kernel
theorem dX6_seasons_27 : decode cX6_seasons 27 = .ok (.iconst 0, 1) := by decide +kernel
theorem dX6_seasons_28 : decode cX6_seasons 28 = .ok (.istore_n 3, 1) := by decide +kernel
theorem dX6_seasons_29 : decode cX6_seasons 29 = .ok (.iload_n 3, 1) := by decide +kernel
theorem dX6_seasons_30 : decode cX6_seasons 30 = .ok (.iload_n 1, 1) := by decide +kernel
theorem dX6_seasons_31 : decode cX6_seasons 31 = .ok (.if_icmp .ge 53, 3) := by decide +kernel
theorem dX6_seasons_34 : decode cX6_seasons 34 = .ok (.aload_n 0, 1) := by decide +kernel
theorem dX6_seasons_35 : decode cX6_seasons 35 = .ok (.aload_n 0, 1) := by decide +kernel
theorem dX6_seasons_36 : decode cX6_seasons 36 = .ok (.getfield 71, 3) := by decide +kernel
theorem dX6_seasons_39 : decode cX6_seasons 39 = .ok (.ldc2_w 240, 3) := by decide +kernel
theorem dX6_seasons_42 : decode cX6_seasons 42 = .ok (.lmul, 1) := by decide +kernel
theorem dX6_seasons_43 : decode cX6_seasons 43 = .ok (.ldc2_w 242, 3) := by decide +kernel
theorem dX6_seasons_46 : decode cX6_seasons 46 = .ok (.ladd, 1) := by decide +kernel
theorem dX6_seasons_47 : decode cX6_seasons 47 = .ok (.putfield 71, 3) := by decide +kernel
theorem dX6_seasons_50 : decode cX6_seasons 50 = .ok (.aload_n 0, 1) := by decide +kernel
theorem dX6_seasons_51 : decode cX6_seasons 51 = .ok (.aload_n 0, 1) := by decide +kernel
theorem dX6_seasons_52 : decode cX6_seasons 52 = .ok (.getfield 71, 3) := by decide +kernel
theorem dX6_seasons_55 : decode cX6_seasons 55 = .ok (.bipush 33, 2) := by decide +kernel
theorem dX6_seasons_57 : decode cX6_seasons 57 = .ok (.lushr, 1) := by decide +kernel
theorem dX6_seasons_58 : decode cX6_seasons 58 = .ok (.l2i, 1) := by decide +kernel
theorem dX6_seasons_59 : decode cX6_seasons 59 = .ok (.bipush 31, 2) := by decide +kernel
theorem dX6_seasons_61 : decode cX6_seasons 61 = .ok (.iand, 1) := by decide +kernel
theorem dX6_seasons_62 : decode cX6_seasons 62 = .ok (.invokevirtual 244, 3) := by decide +kernel
theorem dX6_seasons_65 : decode cX6_seasons 65 = .ok (.iload_n 2, 1) := by decide +kernel
theorem dX6_seasons_66 : decode cX6_seasons 66 = .ok (.aload_n 0, 1) := by decide +kernel
theorem dX6_seasons_67 : decode cX6_seasons 67 = .ok (.getfield 39, 3) := by decide +kernel
theorem dX6_seasons_70 : decode cX6_seasons 70 = .ok (.getfield 135, 3) := by decide +kernel
theorem dX6_seasons_73 : decode cX6_seasons 73 = .ok (.invokestatic 156, 3) := by decide +kernel
theorem dX6_seasons_76 : decode cX6_seasons 76 = .ok (.iadd, 1) := by decide +kernel
theorem dX6_seasons_77 : decode cX6_seasons 77 = .ok (.istore_n 2, 1) := by decide +kernel
theorem dX6_seasons_78 : decode cX6_seasons 78 = .ok (.iinc 3 1, 3) := by decide +kernel
theorem dX6_seasons_81 : decode cX6_seasons 81 = .ok (.goto (-52), 3) := by decide +kernel
theorem dX6_seasons_84 : decode cX6_seasons 84 = .ok (.iload_n 2, 1) := by decide +kernel
theorem dX6_seasons_85 : decode cX6_seasons 85 = .ok (.ireturn, 1) := by decide +kernel
theorem dX6_keep_0 : decode cX6_keep 0 = .ok (.iload_n 1, 1) := by decide +kernel
theorem dX6_keep_1 : decode cX6_keep 1 = .ok (.ifCond .lt 8, 3) := by decide +kernel
theorem dX6_keep_4 : decode cX6_keep 4 = .ok (.iload_n 1, 1) := by decide +kernel
theorem dX6_keep_5 : decode cX6_keep 5 = .ok (.iconst 2, 1) := by decide +kernel
theorem dX6_keep_6 : decode cX6_keep 6 = .ok (.if_icmp .lt 5, 3) := by decide +kernel
theorem dX6_keep_9 : decode cX6_keep 9 = .ok (.iconst (-1), 1) := by decide +kernel
theorem dX6_keep_10 : decode cX6_keep 10 = .ok (.ireturn, 1) := by decide +kernel
theorem dX6_keep_11 : decode cX6_keep 11 = .ok (.aload_n 0, 1) := by decide +kernel
theorem dX6_keep_12 : decode cX6_keep 12 = .ok (.getfield 49, 3) := by decide +kernel
theorem dX6_keep_15 : decode cX6_keep 15 = .ok (.iload_n 1, 1) := by decide +kernel
theorem dX6_keep_16 : decode cX6_keep 16 = .ok (.aaload, 1) := by decide +kernel
theorem dX6_keep_17 : decode cX6_keep 17 = .ok (.aload_n 0, 1) := by decide +kernel
theorem dX6_keep_18 : decode cX6_keep 18 = .ok (.getfield 35, 3) := by decide +kernel
theorem dX6_keep_21 : decode cX6_keep 21 = .ok (.invokevirtual 169, 3) := by decide +kernel
theorem dX6_keep_24 : decode cX6_keep 24 = .ok (.aload_n 0, 1) := by decide +kernel
theorem dX6_keep_25 : decode cX6_keep 25 = .ok (.getfield 53, 3) := by decide +kernel
theorem dX6_keep_28 : decode cX6_keep 28 = .ok (.iload_n 1, 1) := by decide +kernel
theorem dX6_keep_29 : decode cX6_keep 29 = .ok (.iconst 1, 1) := by decide +kernel
theorem dX6_keep_30 : decode cX6_keep 30 = .ok (.bastore, 1) := by decide +kernel
theorem dX6_keep_31 : decode cX6_keep 31 = .ok (.aload_n 0, 1) := by decide +kernel
theorem dX6_keep_32 : decode cX6_keep 32 = .ok (.getfield 35, 3) := by decide +kernel
theorem dX6_keep_35 : decode cX6_keep 35 = .ok (.getfield 247, 3) := by decide +kernel
theorem dX6_keep_38 : decode cX6_keep 38 = .ok (.ireturn, 1) := by decide +kernel
theorem dX6_again_0 : decode cX6_again 0 = .ok (.iload_n 1, 1) := by decide +kernel
theorem dX6_again_1 : decode cX6_again 1 = .ok (.ifCond .lt 8, 3) := by decide +kernel
theorem dX6_again_4 : decode cX6_again 4 = .ok (.iload_n 1, 1) := by decide +kernel
theorem dX6_again_5 : decode cX6_again 5 = .ok (.iconst 2, 1) := by decide +kernel
theorem dX6_again_6 : decode cX6_again 6 = .ok (.if_icmp .lt 5, 3) := by decide +kernel
theorem dX6_again_9 : decode cX6_again 9 = .ok (.iconst (-1), 1) := by decide +kernel
theorem dX6_again_10 : decode cX6_again 10 = .ok (.ireturn, 1) := by decide +kernel
theorem dX6_again_11 : decode cX6_again 11 = .ok (.aload_n 0, 1) := by decide +kernel
theorem dX6_again_12 : decode cX6_again 12 = .ok (.getfield 53, 3) := by decide +kernel
theorem dX6_again_15 : decode cX6_again 15 = .ok (.iload_n 1, 1) := by decide +kernel
theorem dX6_again_16 : decode cX6_again 16 = .ok (.baload, 1) := by decide +kernel
theorem dX6_again_17 : decode cX6_again 17 = .ok (.ifCond .ne 6, 3) := by decide +kernel
theorem dX6_again_20 : decode cX6_again 20 = .ok (.bipush (-3), 2) := by decide +kernel
theorem dX6_again_22 : decode cX6_again 22 = .ok (.ireturn, 1) := by decide +kernel
theorem dX6_again_23 : decode cX6_again 23 = .ok (.aload_n 0, 1) := by decide +kernel
theorem dX6_again_24 : decode cX6_again 24 = .ok (.getfield 35, 3) := by decide +kernel
theorem dX6_again_27 : decode cX6_again 27 = .ok (.aload_n 0, 1) := by decide +kernel
theorem dX6_again_28 : decode cX6_again 28 = .ok (.getfield 49, 3) := by decide +kernel
theorem dX6_again_31 : decode cX6_again 31 = .ok (.iload_n 1, 1) := by decide +kernel
theorem dX6_again_32 : decode cX6_again 32 = .ok (.aaload, 1) := by decide +kernel
theorem dX6_again_33 : decode cX6_again 33 = .ok (.invokevirtual 169, 3) := by decide +kernel
theorem dX6_again_36 : decode cX6_again 36 = .ok (.aload_n 0, 1) := by decide +kernel
theorem dX6_again_37 : decode cX6_again 37 = .ok (.getfield 45, 3) := by decide +kernel
theorem dX6_again_40 : decode cX6_again 40 = .ok (.invokevirtual 94, 3) := by decide +kernel
theorem dX6_again_43 : decode cX6_again 43 = .ok (.aload_n 0, 1) := by decide +kernel
theorem dX6_again_44 : decode cX6_again 44 = .ok (.getfield 35, 3) := by decide +kernel
theorem dX6_again_47 : decode cX6_again 47 = .ok (.getfield 247, 3) := by decide +kernel
theorem dX6_again_50 : decode cX6_again 50 = .ok (.ireturn, 1) := by decide +kernel
theorem dX6_count_0 : decode cX6_count 0 = .ok (.iload_n 1, 1) := by decide +kernel
theorem dX6_count_1 : decode cX6_count 1 = .ok (.tableswitch 161 0 10 #[59, 67, 75, 83, 91, 99, 107, 122, 137, 145, 153], 59) := by decide +kernel
theorem dX6_count_60 : decode cX6_count 60 = .ok (.aload_n 0, 1) := by decide +kernel
theorem dX6_count_61 : decode cX6_count 61 = .ok (.getfield 10, 3) := by decide +kernel
theorem dX6_count_64 : decode cX6_count 64 = .ok (.getfield 75, 3) := by decide +kernel
theorem dX6_count_67 : decode cX6_count 67 = .ok (.ireturn, 1) := by decide +kernel
theorem dX6_count_68 : decode cX6_count 68 = .ok (.aload_n 0, 1) := by decide +kernel
theorem dX6_count_69 : decode cX6_count 69 = .ok (.getfield 19, 3) := by decide +kernel
theorem dX6_count_72 : decode cX6_count 72 = .ok (.getfield 97, 3) := by decide +kernel
theorem dX6_count_75 : decode cX6_count 75 = .ok (.ireturn, 1) := by decide +kernel
theorem dX6_count_76 : decode cX6_count 76 = .ok (.aload_n 0, 1) := by decide +kernel
theorem dX6_count_77 : decode cX6_count 77 = .ok (.getfield 19, 3) := by decide +kernel
theorem dX6_count_80 : decode cX6_count 80 = .ok (.getfield 100, 3) := by decide +kernel
theorem dX6_count_83 : decode cX6_count 83 = .ok (.ireturn, 1) := by decide +kernel
theorem dX6_count_84 : decode cX6_count 84 = .ok (.aload_n 0, 1) := by decide +kernel
theorem dX6_count_85 : decode cX6_count 85 = .ok (.getfield 19, 3) := by decide +kernel
theorem dX6_count_88 : decode cX6_count 88 = .ok (.getfield 103, 3) := by decide +kernel
theorem dX6_count_91 : decode cX6_count 91 = .ok (.ireturn, 1) := by decide +kernel
theorem dX6_count_92 : decode cX6_count 92 = .ok (.aload_n 0, 1) := by decide +kernel
theorem dX6_count_93 : decode cX6_count 93 = .ok (.getfield 35, 3) := by decide +kernel
theorem dX6_count_96 : decode cX6_count 96 = .ok (.getfield 247, 3) := by decide +kernel
theorem dX6_count_99 : decode cX6_count 99 = .ok (.ireturn, 1) := by decide +kernel
theorem dX6_count_100 : decode cX6_count 100 = .ok (.aload_n 0, 1) := by decide +kernel
theorem dX6_count_101 : decode cX6_count 101 = .ok (.getfield 35, 3) := by decide +kernel
theorem dX6_count_104 : decode cX6_count 104 = .ok (.getfield 135, 3) := by decide +kernel
theorem dX6_count_107 : decode cX6_count 107 = .ok (.ireturn, 1) := by decide +kernel
theorem dX6_count_108 : decode cX6_count 108 = .ok (.aload_n 0, 1) := by decide +kernel
theorem dX6_count_109 : decode cX6_count 109 = .ok (.getfield 19, 3) := by decide +kernel
theorem dX6_count_112 : decode cX6_count 112 = .ok (.aload_n 0, 1) := by decide +kernel
theorem dX6_count_113 : decode cX6_count 113 = .ok (.getfield 35, 3) := by decide +kernel
theorem dX6_count_116 : decode cX6_count 116 = .ok (.getfield 135, 3) := by decide +kernel
theorem dX6_count_119 : decode cX6_count 119 = .ok (.invokevirtual 199, 3) := by decide +kernel
theorem dX6_count_122 : decode cX6_count 122 = .ok (.ireturn, 1) := by decide +kernel
theorem dX6_count_123 : decode cX6_count 123 = .ok (.aload_n 0, 1) := by decide +kernel
theorem dX6_count_124 : decode cX6_count 124 = .ok (.getfield 19, 3) := by decide +kernel
theorem dX6_count_127 : decode cX6_count 127 = .ok (.aload_n 0, 1) := by decide +kernel
theorem dX6_count_128 : decode cX6_count 128 = .ok (.getfield 35, 3) := by decide +kernel
theorem dX6_count_131 : decode cX6_count 131 = .ok (.getfield 135, 3) := by decide +kernel
theorem dX6_count_134 : decode cX6_count 134 = .ok (.invokevirtual 250, 3) := by decide +kernel
theorem dX6_count_137 : decode cX6_count 137 = .ok (.ireturn, 1) := by decide +kernel
theorem dX6_count_138 : decode cX6_count 138 = .ok (.aload_n 0, 1) := by decide +kernel
theorem dX6_count_139 : decode cX6_count 139 = .ok (.getfield 35, 3) := by decide +kernel
theorem dX6_count_142 : decode cX6_count 142 = .ok (.invokevirtual 253, 3) := by decide +kernel
theorem dX6_count_145 : decode cX6_count 145 = .ok (.ireturn, 1) := by decide +kernel
theorem dX6_count_146 : decode cX6_count 146 = .ok (.aload_n 0, 1) := by decide +kernel
theorem dX6_count_147 : decode cX6_count 147 = .ok (.getfield 45, 3) := by decide +kernel
theorem dX6_count_150 : decode cX6_count 150 = .ok (.getfield 165, 3) := by decide +kernel
theorem dX6_count_153 : decode cX6_count 153 = .ok (.ireturn, 1) := by decide +kernel
theorem dX6_count_154 : decode cX6_count 154 = .ok (.aload_n 0, 1) := by decide +kernel
theorem dX6_count_155 : decode cX6_count 155 = .ok (.getfield 60, 3) := by decide +kernel
theorem dX6_count_158 : decode cX6_count 158 = .ok (.getfield 211, 3) := by decide +kernel
theorem dX6_count_161 : decode cX6_count 161 = .ok (.ireturn, 1) := by decide +kernel
theorem dX6_count_162 : decode cX6_count 162 = .ok (.bipush (-2), 2) := by decide +kernel
theorem dX6_count_164 : decode cX6_count 164 = .ok (.ireturn, 1) := by decide +kernel
theorem dX6_isThing_0 : decode cX6_isThing 0 = .ok (.iload_n 0, 1) := by decide +kernel
theorem dX6_isThing_1 : decode cX6_isThing 1 = .ok (.ifCond .lt 13, 3) := by decide +kernel
theorem dX6_isThing_4 : decode cX6_isThing 4 = .ok (.iload_n 0, 1) := by decide +kernel
theorem dX6_isThing_5 : decode cX6_isThing 5 = .ok (.bipush 6, 2) := by decide +kernel
theorem dX6_isThing_7 : decode cX6_isThing 7 = .ok (.if_icmp .ge 7, 3) := by decide +kernel
theorem dX6_isThing_10 : decode cX6_isThing 10 = .ok (.iconst 1, 1) := by decide +kernel
theorem dX6_isThing_11 : decode cX6_isThing 11 = .ok (.goto 4, 3) := by decide +kernel
theorem dX6_isThing_14 : decode cX6_isThing 14 = .ok (.iconst 0, 1) := by decide +kernel
theorem dX6_isThing_15 : decode cX6_isThing 15 = .ok (.ireturn, 1) := by decide +kernel
theorem dX6_isPin_0 : decode cX6_isPin 0 = .ok (.iload_n 1, 1) := by decide +kernel
theorem dX6_isPin_1 : decode cX6_isPin 1 = .ok (.ifCond .lt 18, 3) := by decide +kernel
theorem dX6_isPin_4 : decode cX6_isPin 4 = .ok (.iload_n 1, 1) := by decide +kernel
theorem dX6_isPin_5 : decode cX6_isPin 5 = .ok (.aload_n 0, 1) := by decide +kernel
theorem dX6_isPin_6 : decode cX6_isPin 6 = .ok (.getfield 19, 3) := by decide +kernel
theorem dX6_isPin_9 : decode cX6_isPin 9 = .ok (.getfield 97, 3) := by decide +kernel
theorem dX6_isPin_12 : decode cX6_isPin 12 = .ok (.if_icmp .ge 7, 3) := by decide +kernel
theorem dX6_isPin_15 : decode cX6_isPin 15 = .ok (.iconst 1, 1) := by decide +kernel
theorem dX6_isPin_16 : decode cX6_isPin 16 = .ok (.goto 4, 3) := by decide +kernel
theorem dX6_isPin_19 : decode cX6_isPin 19 = .ok (.iconst 0, 1) := by decide +kernel
theorem dX6_isPin_20 : decode cX6_isPin 20 = .ok (.ireturn, 1) := by decide +kernel
theorem dX6_refusalOfTwo_0 : decode cX6_refusalOfTwo 0 = .ok (.iload_n 0, 1) := by decide +kernel
theorem dX6_refusalOfTwo_1 : decode cX6_refusalOfTwo 1 = .ok (.invokestatic 132, 3) := by decide +kernel
theorem dX6_refusalOfTwo_4 : decode cX6_refusalOfTwo 4 = .ok (.ifCond .eq 10, 3) := by decide +kernel
theorem dX6_refusalOfTwo_7 : decode cX6_refusalOfTwo 7 = .ok (.iload_n 1, 1) := by decide +kernel
theorem dX6_refusalOfTwo_8 : decode cX6_refusalOfTwo 8 = .ok (.invokestatic 132, 3) := by decide +kernel
theorem dX6_refusalOfTwo_11 : decode cX6_refusalOfTwo 11 = .ok (.ifCond .ne 5, 3) := by decide +kernel
theorem dX6_refusalOfTwo_14 : decode cX6_refusalOfTwo 14 = .ok (.iconst (-1), 1) := by decide +kernel
theorem dX6_refusalOfTwo_15 : decode cX6_refusalOfTwo 15 = .ok (.ireturn, 1) := by decide +kernel
theorem dX6_refusalOfTwo_16 : decode cX6_refusalOfTwo 16 = .ok (.iload_n 0, 1) := by decide +kernel
theorem dX6_refusalOfTwo_17 : decode cX6_refusalOfTwo 17 = .ok (.iload_n 1, 1) := by decide +kernel
theorem dX6_refusalOfTwo_18 : decode cX6_refusalOfTwo 18 = .ok (.if_icmp .ne 8, 3) := by decide +kernel
theorem dX6_refusalOfTwo_21 : decode cX6_refusalOfTwo 21 = .ok (.bipush (-2), 2) := by decide +kernel
theorem dX6_refusalOfTwo_23 : decode cX6_refusalOfTwo 23 = .ok (.goto 4, 3) := by decide +kernel
theorem dX6_refusalOfTwo_26 : decode cX6_refusalOfTwo 26 = .ok (.iconst 0, 1) := by decide +kernel
theorem dX6_refusalOfTwo_27 : decode cX6_refusalOfTwo 27 = .ok (.ireturn, 1) := by decide +kernel
theorem dX6_isBetterCut_0 : decode cX6_isBetterCut 0 = .ok (.iload_n 2, 1) := by decide +kernel
theorem dX6_isBetterCut_1 : decode cX6_isBetterCut 1 = .ok (.bipush (-9), 2) := by decide +kernel
theorem dX6_isBetterCut_3 : decode cX6_isBetterCut 3 = .ok (.if_icmp .eq 14, 3) := by decide +kernel
theorem dX6_isBetterCut_6 : decode cX6_isBetterCut 6 = .ok (.iload_n 1, 1) := by decide +kernel
theorem dX6_isBetterCut_7 : decode cX6_isBetterCut 7 = .ok (.invokestatic 156, 3) := by decide +kernel
theorem dX6_isBetterCut_10 : decode cX6_isBetterCut 10 = .ok (.iload_n 2, 1) := by decide +kernel
theorem dX6_isBetterCut_11 : decode cX6_isBetterCut 11 = .ok (.invokestatic 156, 3) := by decide +kernel
theorem dX6_isBetterCut_14 : decode cX6_isBetterCut 14 = .ok (.if_icmp .ge 7, 3) := by decide +kernel
theorem dX6_isBetterCut_17 : decode cX6_isBetterCut 17 = .ok (.iconst 1, 1) := by decide +kernel
theorem dX6_isBetterCut_18 : decode cX6_isBetterCut 18 = .ok (.goto 4, 3) := by decide +kernel
theorem dX6_isBetterCut_21 : decode cX6_isBetterCut 21 = .ok (.iconst 0, 1) := by decide +kernel
theorem dX6_isBetterCut_22 : decode cX6_isBetterCut 22 = .ok (.istore_n 3, 1) := by decide +kernel
theorem dX6_isBetterCut_23 : decode cX6_isBetterCut 23 = .ok (.iload_n 3, 1) := by decide +kernel
theorem dX6_isBetterCut_24 : decode cX6_isBetterCut 24 = .ok (.ifCond .eq 19, 3) := by decide +kernel
theorem dX6_isBetterCut_27 : decode cX6_isBetterCut 27 = .ok (.iload_n 1, 1) := by decide +kernel
theorem dX6_isBetterCut_28 : decode cX6_isBetterCut 28 = .ok (.aload_n 0, 1) := by decide +kernel
theorem dX6_isBetterCut_29 : decode cX6_isBetterCut 29 = .ok (.getfield 35, 3) := by decide +kernel
theorem dX6_isBetterCut_32 : decode cX6_isBetterCut 32 = .ok (.getfield 135, 3) := by decide +kernel
theorem dX6_isBetterCut_35 : decode cX6_isBetterCut 35 = .ok (.iand, 1) := by decide +kernel
theorem dX6_isBetterCut_36 : decode cX6_isBetterCut 36 = .ok (.ifCond .ne 7, 3) := by decide +kernel
theorem dX6_isBetterCut_39 : decode cX6_isBetterCut 39 = .ok (.iconst 1, 1) := by decide +kernel
theorem dX6_isBetterCut_40 : decode cX6_isBetterCut 40 = .ok (.goto 4, 3) := by decide +kernel
theorem dX6_isBetterCut_43 : decode cX6_isBetterCut 43 = .ok (.iconst 0, 1) := by decide +kernel
theorem dX6_isBetterCut_44 : decode cX6_isBetterCut 44 = .ok (.ireturn, 1) := by decide +kernel
theorem dX6_firstThatParts_0 : decode cX6_firstThatParts 0 = .ok (.iconst 0, 1) := by decide +kernel
theorem dX6_firstThatParts_1 : decode cX6_firstThatParts 1 = .ok (.istore 4, 2) := by decide +kernel
theorem dX6_firstThatParts_3 : decode cX6_firstThatParts 3 = .ok (.iload 4, 2) := by decide +kernel
theorem dX6_firstThatParts_5 : decode cX6_firstThatParts 5 = .ok (.bipush 6, 2) := by decide +kernel
theorem dX6_firstThatParts_7 : decode cX6_firstThatParts 7 = .ok (.if_icmp .ge 57, 3) := by decide +kernel
theorem dX6_firstThatParts_10 : decode cX6_firstThatParts 10 = .ok (.aload_n 0, 1) := by decide +kernel
theorem dX6_firstThatParts_11 : decode cX6_firstThatParts 11 = .ok (.getfield 39, 3) := by decide +kernel
theorem dX6_firstThatParts_14 : decode cX6_firstThatParts 14 = .ok (.aload_n 0, 1) := by decide +kernel
theorem dX6_firstThatParts_15 : decode cX6_firstThatParts 15 = .ok (.getfield 35, 3) := by decide +kernel
theorem dX6_firstThatParts_18 : decode cX6_firstThatParts 18 = .ok (.invokevirtual 169, 3) := by decide +kernel
theorem dX6_firstThatParts_21 : decode cX6_firstThatParts 21 = .ok (.aload_n 0, 1) := by decide +kernel
theorem dX6_firstThatParts_22 : decode cX6_firstThatParts 22 = .ok (.getfield 28, 3) := by decide +kernel
theorem dX6_firstThatParts_25 : decode cX6_firstThatParts 25 = .ok (.aload_n 0, 1) := by decide +kernel
theorem dX6_firstThatParts_26 : decode cX6_firstThatParts 26 = .ok (.getfield 39, 3) := by decide +kernel
theorem dX6_firstThatParts_29 : decode cX6_firstThatParts 29 = .ok (.iload 4, 2) := by decide +kernel
theorem dX6_firstThatParts_31 : decode cX6_firstThatParts 31 = .ok (.iload_n 3, 1) := by decide +kernel
theorem dX6_firstThatParts_32 : decode cX6_firstThatParts 32 = .ok (.invokevirtual 149, 3) := by decide +kernel
theorem dX6_firstThatParts_35 : decode cX6_firstThatParts 35 = .ok (.pop, 1) := by decide +kernel
theorem dX6_firstThatParts_36 : decode cX6_firstThatParts 36 = .ok (.aload_n 0, 1) := by decide +kernel
theorem dX6_firstThatParts_37 : decode cX6_firstThatParts 37 = .ok (.getfield 19, 3) := by decide +kernel
theorem dX6_firstThatParts_40 : decode cX6_firstThatParts 40 = .ok (.iload_n 1, 1) := by decide +kernel
theorem dX6_firstThatParts_41 : decode cX6_firstThatParts 41 = .ok (.iload_n 2, 1) := by decide +kernel
theorem dX6_firstThatParts_42 : decode cX6_firstThatParts 42 = .ok (.aload_n 0, 1) := by decide +kernel
theorem dX6_firstThatParts_43 : decode cX6_firstThatParts 43 = .ok (.getfield 39, 3) := by decide +kernel
theorem dX6_firstThatParts_46 : decode cX6_firstThatParts 46 = .ok (.getfield 135, 3) := by decide +kernel
theorem dX6_firstThatParts_49 : decode cX6_firstThatParts 49 = .ok (.invokevirtual 191, 3) := by decide +kernel
theorem dX6_firstThatParts_52 : decode cX6_firstThatParts 52 = .ok (.ifCond .ne 6, 3) := by decide +kernel
theorem dX6_firstThatParts_55 : decode cX6_firstThatParts 55 = .ok (.iload 4, 2) := by decide +kernel
theorem dX6_firstThatParts_57 : decode cX6_firstThatParts 57 = .ok (.ireturn, 1) := by decide +kernel
theorem dX6_firstThatParts_58 : decode cX6_firstThatParts 58 = .ok (.iinc 4 1, 3) := by decide +kernel
theorem dX6_firstThatParts_61 : decode cX6_firstThatParts 61 = .ok (.goto (-58), 3) := by decide +kernel
theorem dX6_firstThatParts_64 : decode cX6_firstThatParts 64 = .ok (.bipush (-9), 2) := by decide +kernel
theorem dX6_firstThatParts_66 : decode cX6_firstThatParts 66 = .ok (.ireturn, 1) := by decide +kernel
theorem dX6_comesTrue_0 : decode cX6_comesTrue 0 = .ok (.iload_n 1, 1) := by decide +kernel
theorem dX6_comesTrue_1 : decode cX6_comesTrue 1 = .ok (.tableswitch 209 0 5 #[39, 63, 92, 110, 128, 167], 39) := by decide +kernel
theorem dX6_comesTrue_40 : decode cX6_comesTrue 40 = .ok (.iload_n 2, 1) := by decide +kernel
theorem dX6_comesTrue_41 : decode cX6_comesTrue 41 = .ok (.ifCond .ne 7, 3) := by decide +kernel
theorem dX6_comesTrue_44 : decode cX6_comesTrue 44 = .ok (.iload_n 3, 1) := by decide +kernel
theorem dX6_comesTrue_45 : decode cX6_comesTrue 45 = .ok (.ifCond .eq 5, 3) := by decide +kernel
theorem dX6_comesTrue_48 : decode cX6_comesTrue 48 = .ok (.iconst 0, 1) := by decide +kernel
theorem dX6_comesTrue_49 : decode cX6_comesTrue 49 = .ok (.ireturn, 1) := by decide +kernel
theorem dX6_comesTrue_50 : decode cX6_comesTrue 50 = .ok (.aload_n 0, 1) := by decide +kernel
theorem dX6_comesTrue_51 : decode cX6_comesTrue 51 = .ok (.getfield 28, 3) := by decide +kernel
theorem dX6_comesTrue_54 : decode cX6_comesTrue 54 = .ok (.aload_n 0, 1) := by decide +kernel
theorem dX6_comesTrue_55 : decode cX6_comesTrue 55 = .ok (.getfield 39, 3) := by decide +kernel
theorem dX6_comesTrue_58 : decode cX6_comesTrue 58 = .ok (.invokevirtual 145, 3) := by decide +kernel
theorem dX6_comesTrue_61 : decode cX6_comesTrue 61 = .ok (.pop, 1) := by decide +kernel
theorem dX6_comesTrue_62 : decode cX6_comesTrue 62 = .ok (.iconst 1, 1) := by decide +kernel
theorem dX6_comesTrue_63 : decode cX6_comesTrue 63 = .ok (.ireturn, 1) := by decide +kernel
theorem dX6_comesTrue_64 : decode cX6_comesTrue 64 = .ok (.iload_n 2, 1) := by decide +kernel
theorem dX6_comesTrue_65 : decode cX6_comesTrue 65 = .ok (.invokestatic 132, 3) := by decide +kernel
theorem dX6_comesTrue_68 : decode cX6_comesTrue 68 = .ok (.ifCond .eq 7, 3) := by decide +kernel
theorem dX6_comesTrue_71 : decode cX6_comesTrue 71 = .ok (.iload_n 3, 1) := by decide +kernel
theorem dX6_comesTrue_72 : decode cX6_comesTrue 72 = .ok (.ifCond .ne 5, 3) := by decide +kernel
theorem dX6_comesTrue_75 : decode cX6_comesTrue 75 = .ok (.iconst 0, 1) := by decide +kernel
theorem dX6_comesTrue_76 : decode cX6_comesTrue 76 = .ok (.ireturn, 1) := by decide +kernel
theorem dX6_comesTrue_77 : decode cX6_comesTrue 77 = .ok (.aload_n 0, 1) := by decide +kernel
theorem dX6_comesTrue_78 : decode cX6_comesTrue 78 = .ok (.getfield 28, 3) := by decide +kernel
theorem dX6_comesTrue_81 : decode cX6_comesTrue 81 = .ok (.aload_n 0, 1) := by decide +kernel
theorem dX6_comesTrue_82 : decode cX6_comesTrue 82 = .ok (.getfield 39, 3) := by decide +kernel
theorem dX6_comesTrue_85 : decode cX6_comesTrue 85 = .ok (.iload_n 2, 1) := by decide +kernel
theorem dX6_comesTrue_86 : decode cX6_comesTrue 86 = .ok (.iload_n 3, 1) := by decide +kernel
theorem dX6_comesTrue_87 : decode cX6_comesTrue 87 = .ok (.invokevirtual 149, 3) := by decide +kernel
theorem dX6_comesTrue_90 : decode cX6_comesTrue 90 = .ok (.pop, 1) := by decide +kernel
theorem dX6_comesTrue_91 : decode cX6_comesTrue 91 = .ok (.iconst 1, 1) := by decide +kernel
theorem dX6_comesTrue_92 : decode cX6_comesTrue 92 = .ok (.ireturn, 1) := by decide +kernel
theorem dX6_comesTrue_93 : decode cX6_comesTrue 93 = .ok (.iload_n 2, 1) := by decide +kernel
theorem dX6_comesTrue_94 : decode cX6_comesTrue 94 = .ok (.ifCond .ne 15, 3) := by decide +kernel
theorem dX6_comesTrue_97 : decode cX6_comesTrue 97 = .ok (.aload_n 0, 1) := by decide +kernel
theorem dX6_comesTrue_98 : decode cX6_comesTrue 98 = .ok (.iload_n 3, 1) := by decide +kernel
theorem dX6_comesTrue_99 : decode cX6_comesTrue 99 = .ok (.invokevirtual 256, 3) := by decide +kernel
theorem dX6_comesTrue_102 : decode cX6_comesTrue 102 = .ok (.ifCond .eq 7, 3) := by decide +kernel
theorem dX6_comesTrue_105 : decode cX6_comesTrue 105 = .ok (.iconst 1, 1) := by decide +kernel
theorem dX6_comesTrue_106 : decode cX6_comesTrue 106 = .ok (.goto 4, 3) := by decide +kernel
theorem dX6_comesTrue_109 : decode cX6_comesTrue 109 = .ok (.iconst 0, 1) := by decide +kernel
theorem dX6_comesTrue_110 : decode cX6_comesTrue 110 = .ok (.ireturn, 1) := by decide +kernel
theorem dX6_comesTrue_111 : decode cX6_comesTrue 111 = .ok (.iload_n 2, 1) := by decide +kernel
theorem dX6_comesTrue_112 : decode cX6_comesTrue 112 = .ok (.ifCond .ne 15, 3) := by decide +kernel
theorem dX6_comesTrue_115 : decode cX6_comesTrue 115 = .ok (.aload_n 0, 1) := by decide +kernel
theorem dX6_comesTrue_116 : decode cX6_comesTrue 116 = .ok (.iload_n 3, 1) := by decide +kernel
theorem dX6_comesTrue_117 : decode cX6_comesTrue 117 = .ok (.invokevirtual 259, 3) := by decide +kernel
theorem dX6_comesTrue_120 : decode cX6_comesTrue 120 = .ok (.ifCond .eq 7, 3) := by decide +kernel
theorem dX6_comesTrue_123 : decode cX6_comesTrue 123 = .ok (.iconst 1, 1) := by decide +kernel
theorem dX6_comesTrue_124 : decode cX6_comesTrue 124 = .ok (.goto 4, 3) := by decide +kernel
theorem dX6_comesTrue_127 : decode cX6_comesTrue 127 = .ok (.iconst 0, 1) := by decide +kernel
theorem dX6_comesTrue_128 : decode cX6_comesTrue 128 = .ok (.ireturn, 1) := by decide +kernel
theorem dX6_comesTrue_129 : decode cX6_comesTrue 129 = .ok (.iload_n 2, 1) := by decide +kernel
theorem dX6_comesTrue_130 : decode cX6_comesTrue 130 = .ok (.invokestatic 132, 3) := by decide +kernel
theorem dX6_comesTrue_133 : decode cX6_comesTrue 133 = .ok (.ifCond .eq 33, 3) := by decide +kernel
theorem dX6_comesTrue_136 : decode cX6_comesTrue 136 = .ok (.iload_n 3, 1) := by decide +kernel
theorem dX6_comesTrue_137 : decode cX6_comesTrue 137 = .ok (.invokestatic 132, 3) := by decide +kernel
theorem dX6_comesTrue_140 : decode cX6_comesTrue 140 = .ok (.ifCond .eq 26, 3) := by decide +kernel
theorem dX6_comesTrue_143 : decode cX6_comesTrue 143 = .ok (.aload_n 0, 1) := by decide +kernel
theorem dX6_comesTrue_144 : decode cX6_comesTrue 144 = .ok (.getfield 19, 3) := by decide +kernel
theorem dX6_comesTrue_147 : decode cX6_comesTrue 147 = .ok (.iload_n 2, 1) := by decide +kernel
theorem dX6_comesTrue_148 : decode cX6_comesTrue 148 = .ok (.iload_n 3, 1) := by decide +kernel
theorem dX6_comesTrue_149 : decode cX6_comesTrue 149 = .ok (.aload_n 0, 1) := by decide +kernel
theorem dX6_comesTrue_150 : decode cX6_comesTrue 150 = .ok (.getfield 39, 3) := by decide +kernel
theorem dX6_comesTrue_153 : decode cX6_comesTrue 153 = .ok (.getfield 135, 3) := by decide +kernel
theorem dX6_comesTrue_156 : decode cX6_comesTrue 156 = .ok (.invokevirtual 191, 3) := by decide +kernel
theorem dX6_comesTrue_159 : decode cX6_comesTrue 159 = .ok (.ifCond .eq 7, 3) := by decide +kernel
theorem dX6_comesTrue_162 : decode cX6_comesTrue 162 = .ok (.iconst 1, 1) := by decide +kernel
theorem dX6_comesTrue_163 : decode cX6_comesTrue 163 = .ok (.goto 4, 3) := by decide +kernel
theorem dX6_comesTrue_166 : decode cX6_comesTrue 166 = .ok (.iconst 0, 1) := by decide +kernel
theorem dX6_comesTrue_167 : decode cX6_comesTrue 167 = .ok (.ireturn, 1) := by decide +kernel
theorem dX6_comesTrue_168 : decode cX6_comesTrue 168 = .ok (.iload_n 2, 1) := by decide +kernel
theorem dX6_comesTrue_169 : decode cX6_comesTrue 169 = .ok (.ifCond .ne 39, 3) := by decide +kernel
theorem dX6_comesTrue_172 : decode cX6_comesTrue 172 = .ok (.iload_n 3, 1) := by decide +kernel
theorem dX6_comesTrue_173 : decode cX6_comesTrue 173 = .ok (.aload_n 0, 1) := by decide +kernel
theorem dX6_comesTrue_174 : decode cX6_comesTrue 174 = .ok (.getfield 19, 3) := by decide +kernel
theorem dX6_comesTrue_177 : decode cX6_comesTrue 177 = .ok (.getfield 103, 3) := by decide +kernel
theorem dX6_comesTrue_180 : decode cX6_comesTrue 180 = .ok (.if_icmp .ge 28, 3) := by decide +kernel
theorem dX6_comesTrue_183 : decode cX6_comesTrue 183 = .ok (.aload_n 0, 1) := by decide +kernel
theorem dX6_comesTrue_184 : decode cX6_comesTrue 184 = .ok (.getfield 19, 3) := by decide +kernel
theorem dX6_comesTrue_187 : decode cX6_comesTrue 187 = .ok (.aload_n 0, 1) := by decide +kernel
theorem dX6_comesTrue_188 : decode cX6_comesTrue 188 = .ok (.getfield 39, 3) := by decide +kernel
theorem dX6_comesTrue_191 : decode cX6_comesTrue 191 = .ok (.getfield 135, 3) := by decide +kernel
theorem dX6_comesTrue_194 : decode cX6_comesTrue 194 = .ok (.invokevirtual 199, 3) := by decide +kernel
theorem dX6_comesTrue_197 : decode cX6_comesTrue 197 = .ok (.iconst 1, 1) := by decide +kernel
theorem dX6_comesTrue_198 : decode cX6_comesTrue 198 = .ok (.iload_n 3, 1) := by decide +kernel
theorem dX6_comesTrue_199 : decode cX6_comesTrue 199 = .ok (.ishl, 1) := by decide +kernel
theorem dX6_comesTrue_200 : decode cX6_comesTrue 200 = .ok (.iand, 1) := by decide +kernel
theorem dX6_comesTrue_201 : decode cX6_comesTrue 201 = .ok (.ifCond .eq 7, 3) := by decide +kernel
theorem dX6_comesTrue_204 : decode cX6_comesTrue 204 = .ok (.iconst 1, 1) := by decide +kernel
theorem dX6_comesTrue_205 : decode cX6_comesTrue 205 = .ok (.goto 4, 3) := by decide +kernel
theorem dX6_comesTrue_208 : decode cX6_comesTrue 208 = .ok (.iconst 0, 1) := by decide +kernel
theorem dX6_comesTrue_209 : decode cX6_comesTrue 209 = .ok (.ireturn, 1) := by decide +kernel
theorem dX6_comesTrue_210 : decode cX6_comesTrue 210 = .ok (.iconst 0, 1) := by decide +kernel
theorem dX6_comesTrue_211 : decode cX6_comesTrue 211 = .ok (.ireturn, 1) := by decide +kernel
theorem dX6_closesInThought_0 : decode cX6_closesInThought 0 = .ok (.aload_n 0, 1) := by decide +kernel
theorem dX6_closesInThought_1 : decode cX6_closesInThought 1 = .ok (.iload_n 1, 1) := by decide +kernel
theorem dX6_closesInThought_2 : decode cX6_closesInThought 2 = .ok (.invokevirtual 106, 3) := by decide +kernel
theorem dX6_closesInThought_5 : decode cX6_closesInThought 5 = .ok (.ifCond .eq 14, 3) := by decide +kernel
theorem dX6_closesInThought_8 : decode cX6_closesInThought 8 = .ok (.aload_n 0, 1) := by decide +kernel
theorem dX6_closesInThought_9 : decode cX6_closesInThought 9 = .ok (.getfield 39, 3) := by decide +kernel
theorem dX6_closesInThought_12 : decode cX6_closesInThought 12 = .ok (.iload_n 1, 1) := by decide +kernel
theorem dX6_closesInThought_13 : decode cX6_closesInThought 13 = .ok (.invokevirtual 129, 3) := by decide +kernel
theorem dX6_closesInThought_16 : decode cX6_closesInThought 16 = .ok (.ifCond .ne 5, 3) := by decide +kernel
theorem dX6_closesInThought_19 : decode cX6_closesInThought 19 = .ok (.iconst 0, 1) := by decide +kernel
theorem dX6_closesInThought_20 : decode cX6_closesInThought 20 = .ok (.ireturn, 1) := by decide +kernel
theorem dX6_closesInThought_21 : decode cX6_closesInThought 21 = .ok (.aload_n 0, 1) := by decide +kernel
theorem dX6_closesInThought_22 : decode cX6_closesInThought 22 = .ok (.getfield 39, 3) := by decide +kernel
theorem dX6_closesInThought_25 : decode cX6_closesInThought 25 = .ok (.iload_n 1, 1) := by decide +kernel
theorem dX6_closesInThought_26 : decode cX6_closesInThought 26 = .ok (.invokevirtual 153, 3) := by decide +kernel
theorem dX6_closesInThought_29 : decode cX6_closesInThought 29 = .ok (.iconst 1, 1) := by decide +kernel
theorem dX6_closesInThought_30 : decode cX6_closesInThought 30 = .ok (.ireturn, 1) := by decide +kernel
theorem dX6_unpinsInThought_0 : decode cX6_unpinsInThought 0 = .ok (.aload_n 0, 1) := by decide +kernel
theorem dX6_unpinsInThought_1 : decode cX6_unpinsInThought 1 = .ok (.iload_n 1, 1) := by decide +kernel
theorem dX6_unpinsInThought_2 : decode cX6_unpinsInThought 2 = .ok (.invokevirtual 106, 3) := by decide +kernel
theorem dX6_unpinsInThought_5 : decode cX6_unpinsInThought 5 = .ok (.ifCond .eq 14, 3) := by decide +kernel
theorem dX6_unpinsInThought_8 : decode cX6_unpinsInThought 8 = .ok (.aload_n 0, 1) := by decide +kernel
theorem dX6_unpinsInThought_9 : decode cX6_unpinsInThought 9 = .ok (.getfield 39, 3) := by decide +kernel
theorem dX6_unpinsInThought_12 : decode cX6_unpinsInThought 12 = .ok (.iload_n 1, 1) := by decide +kernel
theorem dX6_unpinsInThought_13 : decode cX6_unpinsInThought 13 = .ok (.invokevirtual 129, 3) := by decide +kernel
theorem dX6_unpinsInThought_16 : decode cX6_unpinsInThought 16 = .ok (.ifCond .eq 5, 3) := by decide +kernel
theorem dX6_unpinsInThought_19 : decode cX6_unpinsInThought 19 = .ok (.iconst 0, 1) := by decide +kernel
theorem dX6_unpinsInThought_20 : decode cX6_unpinsInThought 20 = .ok (.ireturn, 1) := by decide +kernel
theorem dX6_unpinsInThought_21 : decode cX6_unpinsInThought 21 = .ok (.aload_n 0, 1) := by decide +kernel
theorem dX6_unpinsInThought_22 : decode cX6_unpinsInThought 22 = .ok (.getfield 39, 3) := by decide +kernel
theorem dX6_unpinsInThought_25 : decode cX6_unpinsInThought 25 = .ok (.iload_n 1, 1) := by decide +kernel
theorem dX6_unpinsInThought_26 : decode cX6_unpinsInThought 26 = .ok (.invokevirtual 162, 3) := by decide +kernel
theorem dX6_unpinsInThought_29 : decode cX6_unpinsInThought 29 = .ok (.iconst 1, 1) := by decide +kernel
theorem dX6_unpinsInThought_30 : decode cX6_unpinsInThought 30 = .ok (.ireturn, 1) := by decide +kernel
theorem dX6_passSeason_0 : decode cX6_passSeason 0 = .ok (.iload_n 1, 1) := by decide +kernel
theorem dX6_passSeason_1 : decode cX6_passSeason 1 = .ok (.iconst 5, 1) := by decide +kernel
theorem dX6_passSeason_2 : decode cX6_passSeason 2 = .ok (.if_icmp .gt 20, 3) := by decide +kernel
theorem dX6_passSeason_5 : decode cX6_passSeason 5 = .ok (.aload_n 0, 1) := by decide +kernel
theorem dX6_passSeason_6 : decode cX6_passSeason 6 = .ok (.getfield 28, 3) := by decide +kernel
theorem dX6_passSeason_9 : decode cX6_passSeason 9 = .ok (.aload_n 0, 1) := by decide +kernel
theorem dX6_passSeason_10 : decode cX6_passSeason 10 = .ok (.getfield 39, 3) := by decide +kernel
theorem dX6_passSeason_13 : decode cX6_passSeason 13 = .ok (.iload_n 1, 1) := by decide +kernel
theorem dX6_passSeason_14 : decode cX6_passSeason 14 = .ok (.iconst 4, 1) := by decide +kernel
theorem dX6_passSeason_15 : decode cX6_passSeason 15 = .ok (.invokevirtual 149, 3) := by decide +kernel
theorem dX6_passSeason_18 : decode cX6_passSeason 18 = .ok (.pop, 1) := by decide +kernel
theorem dX6_passSeason_19 : decode cX6_passSeason 19 = .ok (.goto 51, 3) := by decide +kernel
theorem dX6_passSeason_22 : decode cX6_passSeason 22 = .ok (.iload_n 1, 1) := by decide +kernel
theorem dX6_passSeason_23 : decode cX6_passSeason 23 = .ok (.bipush 12, 2) := by decide +kernel
theorem dX6_passSeason_25 : decode cX6_passSeason 25 = .ok (.if_icmp .gt 15, 3) := by decide +kernel
theorem dX6_passSeason_28 : decode cX6_passSeason 28 = .ok (.aload_n 0, 1) := by decide +kernel
theorem dX6_passSeason_29 : decode cX6_passSeason 29 = .ok (.iload_n 1, 1) := by decide +kernel
theorem dX6_passSeason_30 : decode cX6_passSeason 30 = .ok (.bipush 6, 2) := by decide +kernel
theorem dX6_passSeason_32 : decode cX6_passSeason 32 = .ok (.isub, 1) := by decide +kernel
theorem dX6_passSeason_33 : decode cX6_passSeason 33 = .ok (.invokevirtual 256, 3) := by decide +kernel
theorem dX6_passSeason_36 : decode cX6_passSeason 36 = .ok (.pop, 1) := by decide +kernel
theorem dX6_passSeason_37 : decode cX6_passSeason 37 = .ok (.goto 33, 3) := by decide +kernel
theorem dX6_passSeason_40 : decode cX6_passSeason 40 = .ok (.iload_n 1, 1) := by decide +kernel
theorem dX6_passSeason_41 : decode cX6_passSeason 41 = .ok (.bipush 19, 2) := by decide +kernel
theorem dX6_passSeason_43 : decode cX6_passSeason 43 = .ok (.if_icmp .gt 15, 3) := by decide +kernel
theorem dX6_passSeason_46 : decode cX6_passSeason 46 = .ok (.aload_n 0, 1) := by decide +kernel
theorem dX6_passSeason_47 : decode cX6_passSeason 47 = .ok (.iload_n 1, 1) := by decide +kernel
theorem dX6_passSeason_48 : decode cX6_passSeason 48 = .ok (.bipush 13, 2) := by decide +kernel
theorem dX6_passSeason_50 : decode cX6_passSeason 50 = .ok (.isub, 1) := by decide +kernel
theorem dX6_passSeason_51 : decode cX6_passSeason 51 = .ok (.invokevirtual 259, 3) := by decide +kernel
theorem dX6_passSeason_54 : decode cX6_passSeason 54 = .ok (.pop, 1) := by decide +kernel
theorem dX6_passSeason_55 : decode cX6_passSeason 55 = .ok (.goto 15, 3) := by decide +kernel
theorem dX6_passSeason_58 : decode cX6_passSeason 58 = .ok (.aload_n 0, 1) := by decide +kernel
theorem dX6_passSeason_59 : decode cX6_passSeason 59 = .ok (.getfield 28, 3) := by decide +kernel
theorem dX6_passSeason_62 : decode cX6_passSeason 62 = .ok (.aload_n 0, 1) := by decide +kernel
theorem dX6_passSeason_63 : decode cX6_passSeason 63 = .ok (.getfield 39, 3) := by decide +kernel
theorem dX6_passSeason_66 : decode cX6_passSeason 66 = .ok (.invokevirtual 145, 3) := by decide +kernel
theorem dX6_passSeason_69 : decode cX6_passSeason 69 = .ok (.pop, 1) := by decide +kernel
theorem dX6_passSeason_70 : decode cX6_passSeason 70 = .ok (.return_, 1) := by decide +kernel
theorem dX6_pairsBroughtInAllOrders_0 : decode cX6_pairsBroughtInAllOrders 0 = .ok (.iload_n 2, 1) := by decide +kernel
theorem dX6_pairsBroughtInAllOrders_1 : decode cX6_pairsBroughtInAllOrders 1 = .ok (.iconst 1, 1) := by decide +kernel
theorem dX6_pairsBroughtInAllOrders_2 : decode cX6_pairsBroughtInAllOrders 2 = .ok (.iload_n 1, 1) := by decide +kernel
theorem dX6_pairsBroughtInAllOrders_3 : decode cX6_pairsBroughtInAllOrders 3 = .ok (.ishl, 1) := by decide +kernel
theorem dX6_pairsBroughtInAllOrders_4 : decode cX6_pairsBroughtInAllOrders 4 = .ok (.iconst (-1), 1) := by decide +kernel
theorem dX6_pairsBroughtInAllOrders_5 : decode cX6_pairsBroughtInAllOrders 5 = .ok (.ixor, 1) := by decide +kernel
theorem dX6_pairsBroughtInAllOrders_6 : decode cX6_pairsBroughtInAllOrders 6 = .ok (.iand, 1) := by decide +kernel
theorem dX6_pairsBroughtInAllOrders_7 : decode cX6_pairsBroughtInAllOrders 7 = .ok (.istore 4, 2) := by decide +kernel
theorem dX6_pairsBroughtInAllOrders_9 : decode cX6_pairsBroughtInAllOrders 9 = .ok (.lconst 0, 1) := by decide +kernel
theorem dX6_pairsBroughtInAllOrders_10 : decode cX6_pairsBroughtInAllOrders 10 = .ok (.lstore 5, 2) := by decide +kernel
theorem dX6_pairsBroughtInAllOrders_12 : decode cX6_pairsBroughtInAllOrders 12 = .ok (.iconst 0, 1) := by decide +kernel
theorem dX6_pairsBroughtInAllOrders_13 : decode cX6_pairsBroughtInAllOrders 13 = .ok (.istore 7, 2) := by decide +kernel
theorem dX6_pairsBroughtInAllOrders_15 : decode cX6_pairsBroughtInAllOrders 15 = .ok (.iload 7, 2) := by decide +kernel
theorem dX6_pairsBroughtInAllOrders_17 : decode cX6_pairsBroughtInAllOrders 17 = .ok (.aload_n 0, 1) := by decide +kernel
theorem dX6_pairsBroughtInAllOrders_18 : decode cX6_pairsBroughtInAllOrders 18 = .ok (.getfield 19, 3) := by decide +kernel
theorem dX6_pairsBroughtInAllOrders_21 : decode cX6_pairsBroughtInAllOrders 21 = .ok (.invokevirtual 184, 3) := by decide +kernel
theorem dX6_pairsBroughtInAllOrders_24 : decode cX6_pairsBroughtInAllOrders 24 = .ok (.if_icmp .gt 86, 3) := by decide +kernel
theorem dX6_pairsBroughtInAllOrders_27 : decode cX6_pairsBroughtInAllOrders 27 = .ok (.iload 7, 2) := by decide +kernel
theorem dX6_pairsBroughtInAllOrders_29 : decode cX6_pairsBroughtInAllOrders 29 = .ok (.iload 4, 2) := by decide +kernel
theorem dX6_pairsBroughtInAllOrders_31 : decode cX6_pairsBroughtInAllOrders 31 = .ok (.iconst (-1), 1) := by decide +kernel
theorem dX6_pairsBroughtInAllOrders_32 : decode cX6_pairsBroughtInAllOrders 32 = .ok (.ixor, 1) := by decide +kernel
theorem dX6_pairsBroughtInAllOrders_33 : decode cX6_pairsBroughtInAllOrders 33 = .ok (.iand, 1) := by decide +kernel
theorem dX6_pairsBroughtInAllOrders_34 : decode cX6_pairsBroughtInAllOrders 34 = .ok (.ifCond .ne 70, 3) := by decide +kernel
theorem dX6_pairsBroughtInAllOrders_37 : decode cX6_pairsBroughtInAllOrders 37 = .ok (.iload 7, 2) := by decide +kernel
theorem dX6_pairsBroughtInAllOrders_39 : decode cX6_pairsBroughtInAllOrders 39 = .ok (.invokestatic 156, 3) := by decide +kernel
theorem dX6_pairsBroughtInAllOrders_42 : decode cX6_pairsBroughtInAllOrders 42 = .ok (.istore 8, 2) := by decide +kernel
theorem dX6_pairsBroughtInAllOrders_44 : decode cX6_pairsBroughtInAllOrders 44 = .ok (.getstatic 226, 3) := by decide +kernel
theorem dX6_pairsBroughtInAllOrders_47 : decode cX6_pairsBroughtInAllOrders 47 = .ok (.iload 8, 2) := by decide +kernel
theorem dX6_pairsBroughtInAllOrders_49 : decode cX6_pairsBroughtInAllOrders 49 = .ok (.iaload, 1) := by decide +kernel
theorem dX6_pairsBroughtInAllOrders_50 : decode cX6_pairsBroughtInAllOrders 50 = .ok (.getstatic 226, 3) := by decide +kernel
theorem dX6_pairsBroughtInAllOrders_53 : decode cX6_pairsBroughtInAllOrders 53 = .ok (.iload_n 3, 1) := by decide +kernel
theorem dX6_pairsBroughtInAllOrders_54 : decode cX6_pairsBroughtInAllOrders 54 = .ok (.iconst 1, 1) := by decide +kernel
theorem dX6_pairsBroughtInAllOrders_55 : decode cX6_pairsBroughtInAllOrders 55 = .ok (.isub, 1) := by decide +kernel
theorem dX6_pairsBroughtInAllOrders_56 : decode cX6_pairsBroughtInAllOrders 56 = .ok (.iload 8, 2) := by decide +kernel
theorem dX6_pairsBroughtInAllOrders_58 : decode cX6_pairsBroughtInAllOrders 58 = .ok (.isub, 1) := by decide +kernel
theorem dX6_pairsBroughtInAllOrders_59 : decode cX6_pairsBroughtInAllOrders 59 = .ok (.iaload, 1) := by decide +kernel
theorem dX6_pairsBroughtInAllOrders_60 : decode cX6_pairsBroughtInAllOrders 60 = .ok (.imul, 1) := by decide +kernel
theorem dX6_pairsBroughtInAllOrders_61 : decode cX6_pairsBroughtInAllOrders 61 = .ok (.istore 9, 2) := by decide +kernel
theorem dX6_pairsBroughtInAllOrders_63 : decode cX6_pairsBroughtInAllOrders 63 = .ok (.aload_n 0, 1) := by decide +kernel
theorem dX6_pairsBroughtInAllOrders_64 : decode cX6_pairsBroughtInAllOrders 64 = .ok (.getfield 19, 3) := by decide +kernel
theorem dX6_pairsBroughtInAllOrders_67 : decode cX6_pairsBroughtInAllOrders 67 = .ok (.iload 7, 2) := by decide +kernel
theorem dX6_pairsBroughtInAllOrders_69 : decode cX6_pairsBroughtInAllOrders 69 = .ok (.iconst 1, 1) := by decide +kernel
theorem dX6_pairsBroughtInAllOrders_70 : decode cX6_pairsBroughtInAllOrders 70 = .ok (.iload_n 1, 1) := by decide +kernel
theorem dX6_pairsBroughtInAllOrders_71 : decode cX6_pairsBroughtInAllOrders 71 = .ok (.ishl, 1) := by decide +kernel
theorem dX6_pairsBroughtInAllOrders_72 : decode cX6_pairsBroughtInAllOrders 72 = .ok (.ior, 1) := by decide +kernel
theorem dX6_pairsBroughtInAllOrders_73 : decode cX6_pairsBroughtInAllOrders 73 = .ok (.iconst (-1), 1) := by decide +kernel
theorem dX6_pairsBroughtInAllOrders_74 : decode cX6_pairsBroughtInAllOrders 74 = .ok (.ixor, 1) := by decide +kernel
theorem dX6_pairsBroughtInAllOrders_75 : decode cX6_pairsBroughtInAllOrders 75 = .ok (.invokevirtual 250, 3) := by decide +kernel
theorem dX6_pairsBroughtInAllOrders_78 : decode cX6_pairsBroughtInAllOrders 78 = .ok (.istore 10, 2) := by decide +kernel
theorem dX6_pairsBroughtInAllOrders_80 : decode cX6_pairsBroughtInAllOrders 80 = .ok (.lload 5, 2) := by decide +kernel
theorem dX6_pairsBroughtInAllOrders_82 : decode cX6_pairsBroughtInAllOrders 82 = .ok (.iload 9, 2) := by decide +kernel
theorem dX6_pairsBroughtInAllOrders_84 : decode cX6_pairsBroughtInAllOrders 84 = .ok (.i2l, 1) := by decide +kernel
theorem dX6_pairsBroughtInAllOrders_85 : decode cX6_pairsBroughtInAllOrders 85 = .ok (.iload 10, 2) := by decide +kernel
theorem dX6_pairsBroughtInAllOrders_87 : decode cX6_pairsBroughtInAllOrders 87 = .ok (.aload_n 0, 1) := by decide +kernel
theorem dX6_pairsBroughtInAllOrders_88 : decode cX6_pairsBroughtInAllOrders 88 = .ok (.getfield 19, 3) := by decide +kernel
theorem dX6_pairsBroughtInAllOrders_91 : decode cX6_pairsBroughtInAllOrders 91 = .ok (.iload 7, 2) := by decide +kernel
theorem dX6_pairsBroughtInAllOrders_93 : decode cX6_pairsBroughtInAllOrders 93 = .ok (.iconst (-1), 1) := by decide +kernel
theorem dX6_pairsBroughtInAllOrders_94 : decode cX6_pairsBroughtInAllOrders 94 = .ok (.ixor, 1) := by decide +kernel
theorem dX6_pairsBroughtInAllOrders_95 : decode cX6_pairsBroughtInAllOrders 95 = .ok (.invokevirtual 250, 3) := by decide +kernel
theorem dX6_pairsBroughtInAllOrders_98 : decode cX6_pairsBroughtInAllOrders 98 = .ok (.isub, 1) := by decide +kernel
theorem dX6_pairsBroughtInAllOrders_99 : decode cX6_pairsBroughtInAllOrders 99 = .ok (.i2l, 1) := by decide +kernel
theorem dX6_pairsBroughtInAllOrders_100 : decode cX6_pairsBroughtInAllOrders 100 = .ok (.lmul, 1) := by decide +kernel
theorem dX6_pairsBroughtInAllOrders_101 : decode cX6_pairsBroughtInAllOrders 101 = .ok (.ladd, 1) := by decide +kernel
theorem dX6_pairsBroughtInAllOrders_102 : decode cX6_pairsBroughtInAllOrders 102 = .ok (.lstore 5, 2) := by decide +kernel
theorem dX6_pairsBroughtInAllOrders_104 : decode cX6_pairsBroughtInAllOrders 104 = .ok (.iinc 7 1, 3) := by decide +kernel
theorem dX6_pairsBroughtInAllOrders_107 : decode cX6_pairsBroughtInAllOrders 107 = .ok (.goto (-92), 3) := by decide +kernel
theorem dX6_pairsBroughtInAllOrders_110 : decode cX6_pairsBroughtInAllOrders 110 = .ok (.lload 5, 2) := by decide +kernel
theorem dX6_pairsBroughtInAllOrders_112 : decode cX6_pairsBroughtInAllOrders 112 = .ok (.lreturn, 1) := by decide +kernel
theorem dX6_reckonGains_0 : decode cX6_reckonGains 0 = .ok (.iconst 0, 1) := by decide +kernel
theorem dX6_reckonGains_1 : decode cX6_reckonGains 1 = .ok (.istore_n 3, 1) := by decide +kernel
theorem dX6_reckonGains_2 : decode cX6_reckonGains 2 = .ok (.iload_n 3, 1) := by decide +kernel
theorem dX6_reckonGains_3 : decode cX6_reckonGains 3 = .ok (.iconst 3, 1) := by decide +kernel
theorem dX6_reckonGains_4 : decode cX6_reckonGains 4 = .ok (.if_icmp .ge 146, 3) := by decide +kernel
theorem dX6_reckonGains_7 : decode cX6_reckonGains 7 = .ok (.iconst 0, 1) := by decide +kernel
theorem dX6_reckonGains_8 : decode cX6_reckonGains 8 = .ok (.istore 4, 2) := by decide +kernel
theorem dX6_reckonGains_10 : decode cX6_reckonGains 10 = .ok (.iload 4, 2) := by decide +kernel
theorem dX6_reckonGains_12 : decode cX6_reckonGains 12 = .ok (.iconst 3, 1) := by decide +kernel
theorem dX6_reckonGains_13 : decode cX6_reckonGains 13 = .ok (.if_icmp .ge 131, 3) := by decide +kernel
theorem dX6_reckonGains_16 : decode cX6_reckonGains 16 = .ok (.aload_n 0, 1) := by decide +kernel
theorem dX6_reckonGains_17 : decode cX6_reckonGains 17 = .ok (.getfield 39, 3) := by decide +kernel
theorem dX6_reckonGains_20 : decode cX6_reckonGains 20 = .ok (.aload_n 0, 1) := by decide +kernel
theorem dX6_reckonGains_21 : decode cX6_reckonGains 21 = .ok (.getfield 35, 3) := by decide +kernel
theorem dX6_reckonGains_24 : decode cX6_reckonGains 24 = .ok (.invokevirtual 169, 3) := by decide +kernel
theorem dX6_reckonGains_27 : decode cX6_reckonGains 27 = .ok (.aload_n 0, 1) := by decide +kernel
theorem dX6_reckonGains_28 : decode cX6_reckonGains 28 = .ok (.getfield 28, 3) := by decide +kernel
theorem dX6_reckonGains_31 : decode cX6_reckonGains 31 = .ok (.invokevirtual 172, 3) := by decide +kernel
theorem dX6_reckonGains_34 : decode cX6_reckonGains 34 = .ok (.aload_n 0, 1) := by decide +kernel
theorem dX6_reckonGains_35 : decode cX6_reckonGains 35 = .ok (.getfield 28, 3) := by decide +kernel
theorem dX6_reckonGains_38 : decode cX6_reckonGains 38 = .ok (.iload_n 1, 1) := by decide +kernel
theorem dX6_reckonGains_39 : decode cX6_reckonGains 39 = .ok (.iconst 3, 1) := by decide +kernel
theorem dX6_reckonGains_40 : decode cX6_reckonGains 40 = .ok (.iload_n 3, 1) := by decide +kernel
theorem dX6_reckonGains_41 : decode cX6_reckonGains 41 = .ok (.imul, 1) := by decide +kernel
theorem dX6_reckonGains_42 : decode cX6_reckonGains 42 = .ok (.invokevirtual 262, 3) := by decide +kernel
theorem dX6_reckonGains_45 : decode cX6_reckonGains 45 = .ok (.aload_n 0, 1) := by decide +kernel
theorem dX6_reckonGains_46 : decode cX6_reckonGains 46 = .ok (.getfield 28, 3) := by decide +kernel
theorem dX6_reckonGains_49 : decode cX6_reckonGains 49 = .ok (.iload_n 2, 1) := by decide +kernel
theorem dX6_reckonGains_50 : decode cX6_reckonGains 50 = .ok (.iconst 3, 1) := by decide +kernel
theorem dX6_reckonGains_51 : decode cX6_reckonGains 51 = .ok (.iload 4, 2) := by decide +kernel
theorem dX6_reckonGains_53 : decode cX6_reckonGains 53 = .ok (.imul, 1) := by decide +kernel
theorem dX6_reckonGains_54 : decode cX6_reckonGains 54 = .ok (.invokevirtual 262, 3) := by decide +kernel
theorem dX6_reckonGains_57 : decode cX6_reckonGains 57 = .ok (.aload_n 0, 1) := by decide +kernel
theorem dX6_reckonGains_58 : decode cX6_reckonGains 58 = .ok (.getfield 28, 3) := by decide +kernel
theorem dX6_reckonGains_61 : decode cX6_reckonGains 61 = .ok (.aload_n 0, 1) := by decide +kernel
theorem dX6_reckonGains_62 : decode cX6_reckonGains 62 = .ok (.getfield 39, 3) := by decide +kernel
theorem dX6_reckonGains_65 : decode cX6_reckonGains 65 = .ok (.invokevirtual 178, 3) := by decide +kernel
theorem dX6_reckonGains_68 : decode cX6_reckonGains 68 = .ok (.pop, 1) := by decide +kernel
theorem dX6_reckonGains_69 : decode cX6_reckonGains 69 = .ok (.aload_n 0, 1) := by decide +kernel
theorem dX6_reckonGains_70 : decode cX6_reckonGains 70 = .ok (.getfield 19, 3) := by decide +kernel
theorem dX6_reckonGains_73 : decode cX6_reckonGains 73 = .ok (.iload_n 1, 1) := by decide +kernel
theorem dX6_reckonGains_74 : decode cX6_reckonGains 74 = .ok (.iload_n 2, 1) := by decide +kernel
theorem dX6_reckonGains_75 : decode cX6_reckonGains 75 = .ok (.aload_n 0, 1) := by decide +kernel
theorem dX6_reckonGains_76 : decode cX6_reckonGains 76 = .ok (.getfield 39, 3) := by decide +kernel
theorem dX6_reckonGains_79 : decode cX6_reckonGains 79 = .ok (.getfield 135, 3) := by decide +kernel
theorem dX6_reckonGains_82 : decode cX6_reckonGains 82 = .ok (.invokevirtual 191, 3) := by decide +kernel
theorem dX6_reckonGains_85 : decode cX6_reckonGains 85 = .ok (.ifCond .eq 7, 3) := by decide +kernel
theorem dX6_reckonGains_88 : decode cX6_reckonGains 88 = .ok (.iconst 0, 1) := by decide +kernel
theorem dX6_reckonGains_89 : decode cX6_reckonGains 89 = .ok (.goto 4, 3) := by decide +kernel
theorem dX6_reckonGains_92 : decode cX6_reckonGains 92 = .ok (.iconst 4, 1) := by decide +kernel
theorem dX6_reckonGains_93 : decode cX6_reckonGains 93 = .ok (.istore 5, 2) := by decide +kernel
theorem dX6_reckonGains_95 : decode cX6_reckonGains 95 = .ok (.aload_n 0, 1) := by decide +kernel
theorem dX6_reckonGains_96 : decode cX6_reckonGains 96 = .ok (.getfield 64, 3) := by decide +kernel
theorem dX6_reckonGains_99 : decode cX6_reckonGains 99 = .ok (.iconst 3, 1) := by decide +kernel
theorem dX6_reckonGains_100 : decode cX6_reckonGains 100 = .ok (.iload_n 3, 1) := by decide +kernel
theorem dX6_reckonGains_101 : decode cX6_reckonGains 101 = .ok (.imul, 1) := by decide +kernel
theorem dX6_reckonGains_102 : decode cX6_reckonGains 102 = .ok (.iload 4, 2) := by decide +kernel
theorem dX6_reckonGains_104 : decode cX6_reckonGains 104 = .ok (.iadd, 1) := by decide +kernel
theorem dX6_reckonGains_105 : decode cX6_reckonGains 105 = .ok (.iload 5, 2) := by decide +kernel
theorem dX6_reckonGains_107 : decode cX6_reckonGains 107 = .ok (.iload_n 3, 1) := by decide +kernel
theorem dX6_reckonGains_108 : decode cX6_reckonGains 108 = .ok (.isub, 1) := by decide +kernel
theorem dX6_reckonGains_109 : decode cX6_reckonGains 109 = .ok (.aload_n 0, 1) := by decide +kernel
theorem dX6_reckonGains_110 : decode cX6_reckonGains 110 = .ok (.iload_n 1, 1) := by decide +kernel
theorem dX6_reckonGains_111 : decode cX6_reckonGains 111 = .ok (.invokevirtual 265, 3) := by decide +kernel
theorem dX6_reckonGains_114 : decode cX6_reckonGains 114 = .ok (.isub, 1) := by decide +kernel
theorem dX6_reckonGains_115 : decode cX6_reckonGains 115 = .ok (.iastore, 1) := by decide +kernel
theorem dX6_reckonGains_116 : decode cX6_reckonGains 116 = .ok (.aload_n 0, 1) := by decide +kernel
theorem dX6_reckonGains_117 : decode cX6_reckonGains 117 = .ok (.getfield 68, 3) := by decide +kernel
theorem dX6_reckonGains_120 : decode cX6_reckonGains 120 = .ok (.iconst 3, 1) := by decide +kernel
theorem dX6_reckonGains_121 : decode cX6_reckonGains 121 = .ok (.iload_n 3, 1) := by decide +kernel
theorem dX6_reckonGains_122 : decode cX6_reckonGains 122 = .ok (.imul, 1) := by decide +kernel
theorem dX6_reckonGains_123 : decode cX6_reckonGains 123 = .ok (.iload 4, 2) := by decide +kernel
theorem dX6_reckonGains_125 : decode cX6_reckonGains 125 = .ok (.iadd, 1) := by decide +kernel
theorem dX6_reckonGains_126 : decode cX6_reckonGains 126 = .ok (.iload 5, 2) := by decide +kernel
theorem dX6_reckonGains_128 : decode cX6_reckonGains 128 = .ok (.iload 4, 2) := by decide +kernel
theorem dX6_reckonGains_130 : decode cX6_reckonGains 130 = .ok (.isub, 1) := by decide +kernel
theorem dX6_reckonGains_131 : decode cX6_reckonGains 131 = .ok (.aload_n 0, 1) := by decide +kernel
theorem dX6_reckonGains_132 : decode cX6_reckonGains 132 = .ok (.iload_n 2, 1) := by decide +kernel
theorem dX6_reckonGains_133 : decode cX6_reckonGains 133 = .ok (.invokevirtual 265, 3) := by decide +kernel
theorem dX6_reckonGains_136 : decode cX6_reckonGains 136 = .ok (.isub, 1) := by decide +kernel
theorem dX6_reckonGains_137 : decode cX6_reckonGains 137 = .ok (.iastore, 1) := by decide +kernel
theorem dX6_reckonGains_138 : decode cX6_reckonGains 138 = .ok (.iinc 4 1, 3) := by decide +kernel
theorem dX6_reckonGains_141 : decode cX6_reckonGains 141 = .ok (.goto (-131), 3) := by decide +kernel
theorem dX6_reckonGains_144 : decode cX6_reckonGains 144 = .ok (.iinc 3 1, 3) := by decide +kernel
theorem dX6_reckonGains_147 : decode cX6_reckonGains 147 = .ok (.goto (-145), 3) := by decide +kernel
theorem dX6_reckonGains_150 : decode cX6_reckonGains 150 = .ok (.return_, 1) := by decide +kernel
theorem dX6_priceOfBeingAlone_0 : decode cX6_priceOfBeingAlone 0 = .ok (.aload_n 0, 1) := by decide +kernel
theorem dX6_priceOfBeingAlone_1 : decode cX6_priceOfBeingAlone 1 = .ok (.getfield 19, 3) := by decide +kernel
theorem dX6_priceOfBeingAlone_4 : decode cX6_priceOfBeingAlone 4 = .ok (.iload_n 1, 1) := by decide +kernel
theorem dX6_priceOfBeingAlone_5 : decode cX6_priceOfBeingAlone 5 = .ok (.aload_n 0, 1) := by decide +kernel
theorem dX6_priceOfBeingAlone_6 : decode cX6_priceOfBeingAlone 6 = .ok (.getfield 39, 3) := by decide +kernel
theorem dX6_priceOfBeingAlone_9 : decode cX6_priceOfBeingAlone 9 = .ok (.getfield 135, 3) := by decide +kernel
theorem dX6_priceOfBeingAlone_12 : decode cX6_priceOfBeingAlone 12 = .ok (.invokevirtual 138, 3) := by decide +kernel
theorem dX6_priceOfBeingAlone_15 : decode cX6_priceOfBeingAlone 15 = .ok (.iconst 1, 1) := by decide +kernel
theorem dX6_priceOfBeingAlone_16 : decode cX6_priceOfBeingAlone 16 = .ok (.iload_n 1, 1) := by decide +kernel
theorem dX6_priceOfBeingAlone_17 : decode cX6_priceOfBeingAlone 17 = .ok (.ishl, 1) := by decide +kernel
theorem dX6_priceOfBeingAlone_18 : decode cX6_priceOfBeingAlone 18 = .ok (.if_icmp .ne 7, 3) := by decide +kernel
theorem dX6_priceOfBeingAlone_21 : decode cX6_priceOfBeingAlone 21 = .ok (.iconst 2, 1) := by decide +kernel
theorem dX6_priceOfBeingAlone_22 : decode cX6_priceOfBeingAlone 22 = .ok (.goto 4, 3) := by decide +kernel
theorem dX6_priceOfBeingAlone_25 : decode cX6_priceOfBeingAlone 25 = .ok (.iconst 0, 1) := by decide +kernel
theorem dX6_priceOfBeingAlone_26 : decode cX6_priceOfBeingAlone 26 = .ok (.ireturn, 1) := by decide +kernel
theorem dX6_isAtRest_0 : decode cX6_isAtRest 0 = .ok (.iconst 3, 1) := by decide +kernel
theorem dX6_isAtRest_1 : decode cX6_isAtRest 1 = .ok (.iload_n 1, 1) := by decide +kernel
theorem dX6_isAtRest_2 : decode cX6_isAtRest 2 = .ok (.imul, 1) := by decide +kernel
theorem dX6_isAtRest_3 : decode cX6_isAtRest 3 = .ok (.iload_n 2, 1) := by decide +kernel
theorem dX6_isAtRest_4 : decode cX6_isAtRest 4 = .ok (.iadd, 1) := by decide +kernel
theorem dX6_isAtRest_5 : decode cX6_isAtRest 5 = .ok (.istore_n 3, 1) := by decide +kernel
theorem dX6_isAtRest_6 : decode cX6_isAtRest 6 = .ok (.iconst 0, 1) := by decide +kernel
theorem dX6_isAtRest_7 : decode cX6_isAtRest 7 = .ok (.istore 4, 2) := by decide +kernel
theorem dX6_isAtRest_9 : decode cX6_isAtRest 9 = .ok (.iload 4, 2) := by decide +kernel
theorem dX6_isAtRest_11 : decode cX6_isAtRest 11 = .ok (.iconst 3, 1) := by decide +kernel
theorem dX6_isAtRest_12 : decode cX6_isAtRest 12 = .ok (.if_icmp .ge 51, 3) := by decide +kernel
theorem dX6_isAtRest_15 : decode cX6_isAtRest 15 = .ok (.aload_n 0, 1) := by decide +kernel
theorem dX6_isAtRest_16 : decode cX6_isAtRest 16 = .ok (.getfield 64, 3) := by decide +kernel
theorem dX6_isAtRest_19 : decode cX6_isAtRest 19 = .ok (.iconst 3, 1) := by decide +kernel
theorem dX6_isAtRest_20 : decode cX6_isAtRest 20 = .ok (.iload 4, 2) := by decide +kernel
theorem dX6_isAtRest_22 : decode cX6_isAtRest 22 = .ok (.imul, 1) := by decide +kernel
theorem dX6_isAtRest_23 : decode cX6_isAtRest 23 = .ok (.iload_n 2, 1) := by decide +kernel
theorem dX6_isAtRest_24 : decode cX6_isAtRest 24 = .ok (.iadd, 1) := by decide +kernel
theorem dX6_isAtRest_25 : decode cX6_isAtRest 25 = .ok (.iaload, 1) := by decide +kernel
theorem dX6_isAtRest_26 : decode cX6_isAtRest 26 = .ok (.aload_n 0, 1) := by decide +kernel
theorem dX6_isAtRest_27 : decode cX6_isAtRest 27 = .ok (.getfield 64, 3) := by decide +kernel
theorem dX6_isAtRest_30 : decode cX6_isAtRest 30 = .ok (.iload_n 3, 1) := by decide +kernel
theorem dX6_isAtRest_31 : decode cX6_isAtRest 31 = .ok (.iaload, 1) := by decide +kernel
theorem dX6_isAtRest_32 : decode cX6_isAtRest 32 = .ok (.if_icmp .gt 23, 3) := by decide +kernel
theorem dX6_isAtRest_35 : decode cX6_isAtRest 35 = .ok (.aload_n 0, 1) := by decide +kernel
theorem dX6_isAtRest_36 : decode cX6_isAtRest 36 = .ok (.getfield 68, 3) := by decide +kernel
theorem dX6_isAtRest_39 : decode cX6_isAtRest 39 = .ok (.iconst 3, 1) := by decide +kernel
theorem dX6_isAtRest_40 : decode cX6_isAtRest 40 = .ok (.iload_n 1, 1) := by decide +kernel
theorem dX6_isAtRest_41 : decode cX6_isAtRest 41 = .ok (.imul, 1) := by decide +kernel
theorem dX6_isAtRest_42 : decode cX6_isAtRest 42 = .ok (.iload 4, 2) := by decide +kernel
theorem dX6_isAtRest_44 : decode cX6_isAtRest 44 = .ok (.iadd, 1) := by decide +kernel
theorem dX6_isAtRest_45 : decode cX6_isAtRest 45 = .ok (.iaload, 1) := by decide +kernel
theorem dX6_isAtRest_46 : decode cX6_isAtRest 46 = .ok (.aload_n 0, 1) := by decide +kernel
theorem dX6_isAtRest_47 : decode cX6_isAtRest 47 = .ok (.getfield 68, 3) := by decide +kernel
theorem dX6_isAtRest_50 : decode cX6_isAtRest 50 = .ok (.iload_n 3, 1) := by decide +kernel
theorem dX6_isAtRest_51 : decode cX6_isAtRest 51 = .ok (.iaload, 1) := by decide +kernel
theorem dX6_isAtRest_52 : decode cX6_isAtRest 52 = .ok (.if_icmp .le 5, 3) := by decide +kernel
theorem dX6_isAtRest_55 : decode cX6_isAtRest 55 = .ok (.iconst 0, 1) := by decide +kernel
theorem dX6_isAtRest_56 : decode cX6_isAtRest 56 = .ok (.ireturn, 1) := by decide +kernel
theorem dX6_isAtRest_57 : decode cX6_isAtRest 57 = .ok (.iinc 4 1, 3) := by decide +kernel
theorem dX6_isAtRest_60 : decode cX6_isAtRest 60 = .ok (.goto (-51), 3) := by decide +kernel
theorem dX6_isAtRest_63 : decode cX6_isAtRest 63 = .ok (.iconst 1, 1) := by decide +kernel
theorem dX6_isAtRest_64 : decode cX6_isAtRest 64 = .ok (.ireturn, 1) := by decide +kernel
theorem dX6_power_0 : decode cX6_power 0 = .ok (.lconst 1, 1) := by decide +kernel
theorem dX6_power_1 : decode cX6_power 1 = .ok (.lstore_n 2, 1) := by decide +kernel
theorem dX6_power_2 : decode cX6_power 2 = .ok (.iconst 0, 1) := by decide +kernel
theorem dX6_power_3 : decode cX6_power 3 = .ok (.istore 4, 2) := by decide +kernel
theorem dX6_power_5 : decode cX6_power 5 = .ok (.iload 4, 2) := by decide +kernel
theorem dX6_power_7 : decode cX6_power 7 = .ok (.iload_n 1, 1) := by decide +kernel
theorem dX6_power_8 : decode cX6_power 8 = .ok (.if_icmp .ge 14, 3) := by decide +kernel
theorem dX6_power_11 : decode cX6_power 11 = .ok (.lload_n 2, 1) := by decide +kernel
theorem dX6_power_12 : decode cX6_power 12 = .ok (.iload_n 0, 1) := by decide +kernel
theorem dX6_power_13 : decode cX6_power 13 = .ok (.i2l, 1) := by decide +kernel
theorem dX6_power_14 : decode cX6_power 14 = .ok (.lmul, 1) := by decide +kernel
theorem dX6_power_15 : decode cX6_power 15 = .ok (.lstore_n 2, 1) := by decide +kernel
theorem dX6_power_16 : decode cX6_power 16 = .ok (.iinc 4 1, 3) := by decide +kernel
theorem dX6_power_19 : decode cX6_power 19 = .ok (.goto (-14), 3) := by decide +kernel
theorem dX6_power_22 : decode cX6_power 22 = .ok (.lload_n 2, 1) := by decide +kernel
theorem dX6_power_23 : decode cX6_power 23 = .ok (.lreturn, 1) := by decide +kernel
theorem dX6_inLeastTerms_0 : decode cX6_inLeastTerms 0 = .ok (.lload_n 0, 1) := by decide +kernel
theorem dX6_inLeastTerms_1 : decode cX6_inLeastTerms 1 = .ok (.lload_n 2, 1) := by decide +kernel
theorem dX6_inLeastTerms_2 : decode cX6_inLeastTerms 2 = .ok (.invokestatic 268, 3) := by decide +kernel
theorem dX6_inLeastTerms_5 : decode cX6_inLeastTerms 5 = .ok (.lstore 5, 2) := by decide +kernel
theorem dX6_inLeastTerms_7 : decode cX6_inLeastTerms 7 = .ok (.iload 4, 2) := by decide +kernel
theorem dX6_inLeastTerms_9 : decode cX6_inLeastTerms 9 = .ok (.ifCond .eq 7, 3) := by decide +kernel
theorem dX6_inLeastTerms_12 : decode cX6_inLeastTerms 12 = .ok (.lload_n 0, 1) := by decide +kernel
theorem dX6_inLeastTerms_13 : decode cX6_inLeastTerms 13 = .ok (.goto 4, 3) := by decide +kernel
theorem dX6_inLeastTerms_16 : decode cX6_inLeastTerms 16 = .ok (.lload_n 2, 1) := by decide +kernel
theorem dX6_inLeastTerms_17 : decode cX6_inLeastTerms 17 = .ok (.lload 5, 2) := by decide +kernel
theorem dX6_inLeastTerms_19 : decode cX6_inLeastTerms 19 = .ok (.ldiv, 1) := by decide +kernel
theorem dX6_inLeastTerms_20 : decode cX6_inLeastTerms 20 = .ok (.l2i, 1) := by decide +kernel
theorem dX6_inLeastTerms_21 : decode cX6_inLeastTerms 21 = .ok (.ireturn, 1) := by decide +kernel
theorem dX6_commonDivisor_0 : decode cX6_commonDivisor 0 = .ok (.lload_n 0, 1) := by decide +kernel
theorem dX6_commonDivisor_1 : decode cX6_commonDivisor 1 = .ok (.lstore 4, 2) := by decide +kernel
theorem dX6_commonDivisor_3 : decode cX6_commonDivisor 3 = .ok (.lload_n 2, 1) := by decide +kernel
theorem dX6_commonDivisor_4 : decode cX6_commonDivisor 4 = .ok (.lstore 6, 2) := by decide +kernel
theorem dX6_commonDivisor_6 : decode cX6_commonDivisor 6 = .ok (.iconst 0, 1) := by decide +kernel
theorem dX6_commonDivisor_7 : decode cX6_commonDivisor 7 = .ok (.istore 8, 2) := by decide +kernel
theorem dX6_commonDivisor_9 : decode cX6_commonDivisor 9 = .ok (.iload 8, 2) := by decide +kernel
theorem dX6_commonDivisor_11 : decode cX6_commonDivisor 11 = .ok (.sipush 200, 3) := by decide +kernel
theorem dX6_commonDivisor_14 : decode cX6_commonDivisor 14 = .ok (.if_icmp .ge 31, 3) := by decide +kernel
theorem dX6_commonDivisor_17 : decode cX6_commonDivisor 17 = .ok (.lload 6, 2) := by decide +kernel
theorem dX6_commonDivisor_19 : decode cX6_commonDivisor 19 = .ok (.lconst 0, 1) := by decide +kernel
theorem dX6_commonDivisor_20 : decode cX6_commonDivisor 20 = .ok (.lcmp, 1) := by decide +kernel
theorem dX6_commonDivisor_21 : decode cX6_commonDivisor 21 = .ok (.ifCond .eq 24, 3) := by decide +kernel
theorem dX6_commonDivisor_24 : decode cX6_commonDivisor 24 = .ok (.lload 4, 2) := by decide +kernel
theorem dX6_commonDivisor_26 : decode cX6_commonDivisor 26 = .ok (.lload 6, 2) := by decide +kernel
theorem dX6_commonDivisor_28 : decode cX6_commonDivisor 28 = .ok (.lrem, 1) := by decide +kernel
theorem dX6_commonDivisor_29 : decode cX6_commonDivisor 29 = .ok (.lstore 9, 2) := by decide +kernel
theorem dX6_commonDivisor_31 : decode cX6_commonDivisor 31 = .ok (.lload 6, 2) := by decide +kernel
theorem dX6_commonDivisor_33 : decode cX6_commonDivisor 33 = .ok (.lstore 4, 2) := by decide +kernel
theorem dX6_commonDivisor_35 : decode cX6_commonDivisor 35 = .ok (.lload 9, 2) := by decide +kernel
theorem dX6_commonDivisor_37 : decode cX6_commonDivisor 37 = .ok (.lstore 6, 2) := by decide +kernel
theorem dX6_commonDivisor_39 : decode cX6_commonDivisor 39 = .ok (.iinc 8 1, 3) := by decide +kernel
theorem dX6_commonDivisor_42 : decode cX6_commonDivisor 42 = .ok (.goto (-33), 3) := by decide +kernel
theorem dX6_commonDivisor_45 : decode cX6_commonDivisor 45 = .ok (.lconst 1, 1) := by decide +kernel
theorem dX6_commonDivisor_46 : decode cX6_commonDivisor 46 = .ok (.lload 4, 2) := by decide +kernel
theorem dX6_commonDivisor_48 : decode cX6_commonDivisor 48 = .ok (.invokestatic 272, 3) := by decide +kernel
theorem dX6_commonDivisor_51 : decode cX6_commonDivisor 51 = .ok (.lreturn, 1) := by decide +kernel
end
section
theorem dX7_in_0 : decode cX7_in 0 = .ok (.lload_n 0, 1) := by decide +kernel
theorem dX7_in_1 : decode cX7_in 1 = .ok (.lload_n 2, 1) := by decide +kernel
theorem dX7_in_2 : decode cX7_in 2 = .ok (.lcmp, 1) := by decide +kernel
theorem dX7_in_3 : decode cX7_in 3 = .ok (.ifCond .lt 14, 3) := by decide +kernel
theorem dX7_in_6 : decode cX7_in 6 = .ok (.lload_n 0, 1) := by decide +kernel
theorem dX7_in_7 : decode cX7_in 7 = .ok (.lload 4, 2) := by decide +kernel
theorem dX7_in_9 : decode cX7_in 9 = .ok (.lcmp, 1) := by decide +kernel
theorem dX7_in_10 : decode cX7_in 10 = .ok (.ifCond .gt 7, 3) := by decide +kernel
theorem dX7_in_13 : decode cX7_in 13 = .ok (.iconst 1, 1) := by decide +kernel
theorem dX7_in_14 : decode cX7_in 14 = .ok (.goto 4, 3) := by decide +kernel
theorem dX7_in_17 : decode cX7_in 17 = .ok (.iconst 0, 1) := by decide +kernel
theorem dX7_in_18 : decode cX7_in 18 = .ok (.ireturn, 1) := by decide +kernel
theorem dX7_has_0 : decode cX7_has 0 = .ok (.iload_n 0, 1) := by decide +kernel
theorem dX7_has_1 : decode cX7_has 1 = .ok (.iload_n 1, 1) := by decide +kernel
theorem dX7_has_2 : decode cX7_has 2 = .ok (.ishr, 1) := by decide +kernel
theorem dX7_has_3 : decode cX7_has 3 = .ok (.iconst 1, 1) := by decide +kernel
theorem dX7_has_4 : decode cX7_has 4 = .ok (.iand, 1) := by decide +kernel
theorem dX7_has_5 : decode cX7_has 5 = .ok (.iconst 1, 1) := by decide +kernel
theorem dX7_has_6 : decode cX7_has 6 = .ok (.if_icmp .ne 7, 3) := by decide +kernel
theorem dX7_has_9 : decode cX7_has 9 = .ok (.iconst 1, 1) := by decide +kernel
theorem dX7_has_10 : decode cX7_has 10 = .ok (.goto 4, 3) := by decide +kernel
theorem dX7_has_13 : decode cX7_has 13 = .ok (.iconst 0, 1) := by decide +kernel
theorem dX7_has_14 : decode cX7_has 14 = .ok (.ireturn, 1) := by decide +kernel
theorem dX7_ones_0 : decode cX7_ones 0 = .ok (.iconst 0, 1) := by decide +kernel
theorem dX7_ones_1 : decode cX7_ones 1 = .ok (.istore_n 1, 1) := by decide +kernel
theorem dX7_ones_2 : decode cX7_ones 2 = .ok (.iconst 0, 1) := by decide +kernel
theorem dX7_ones_3 : decode cX7_ones 3 = .ok (.istore_n 2, 1) := by decide +kernel
theorem dX7_ones_4 : decode cX7_ones 4 = .ok (.iload_n 2, 1) := by decide +kernel
theorem dX7_ones_5 : decode cX7_ones 5 = .ok (.bipush 7, 2) := by decide +kernel
theorem dX7_ones_7 : decode cX7_ones 7 = .ok (.if_icmp .ge 17, 3) := by decide +kernel
theorem dX7_ones_10 : decode cX7_ones 10 = .ok (.iload_n 1, 1) := by decide +kernel
theorem dX7_ones_11 : decode cX7_ones 11 = .ok (.iload_n 0, 1) := by decide +kernel
theorem dX7_ones_12 : decode cX7_ones 12 = .ok (.iload_n 2, 1) := by decide +kernel
theorem dX7_ones_13 : decode cX7_ones 13 = .ok (.ishr, 1) := by decide +kernel
theorem dX7_ones_14 : decode cX7_ones 14 = .ok (.iconst 1, 1) := by decide +kernel
theorem dX7_ones_15 : decode cX7_ones 15 = .ok (.iand, 1) := by decide +kernel
theorem dX7_ones_16 : decode cX7_ones 16 = .ok (.iadd, 1) := by decide +kernel
theorem dX7_ones_17 : decode cX7_ones 17 = .ok (.istore_n 1, 1) := by decide +kernel
theorem dX7_ones_18 : decode cX7_ones 18 = .ok (.iinc 2 1, 3) := by decide +kernel
theorem dX7_ones_21 : decode cX7_ones 21 = .ok (.goto (-17), 3) := by decide +kernel
theorem dX7_ones_24 : decode cX7_ones 24 = .ok (.iload_n 1, 1) := by decide +kernel
theorem dX7_ones_25 : decode cX7_ones 25 = .ok (.ireturn, 1) := by decide +kernel
theorem dX7_write_0 : decode cX7_write 0 = .ok (.iload_n 1, 1) := by decide +kernel
theorem dX7_write_1 : decode cX7_write 1 = .ok (.i2l, 1) := by decide +kernel
theorem dX7_write_2 : decode cX7_write 2 = .ok (.lconst 0, 1) := by decide +kernel
theorem dX7_write_3 : decode cX7_write 3 = .ok (.ldc2_w 68, 3) := by decide +kernel
theorem dX7_write_6 : decode cX7_write 6 = .ok (.invokestatic 70, 3) := by decide +kernel
theorem dX7_write_9 : decode cX7_write 9 = .ok (.ifCond .ne 6, 3) := by decide +kernel
theorem dX7_write_12 : decode cX7_write 12 = .ok (.bipush (-2), 2) := by decide +kernel
theorem dX7_write_14 : decode cX7_write 14 = .ok (.ireturn, 1) := by decide +kernel
theorem dX7_write_15 : decode cX7_write 15 = .ok (.aload_n 0, 1) := by decide +kernel
theorem dX7_write_16 : decode cX7_write 16 = .ok (.getfield 74, 3) := by decide +kernel
theorem dX7_write_19 : decode cX7_write 19 = .ok (.bipush 60, 2) := by decide +kernel
theorem dX7_write_21 : decode cX7_write 21 = .ok (.if_icmp .ne 6, 3) := by decide +kernel
theorem dX7_write_24 : decode cX7_write 24 = .ok (.bipush (-4), 2) := by decide +kernel
theorem dX7_write_26 : decode cX7_write 26 = .ok (.ireturn, 1) := by decide +kernel
theorem dX7_write_27 : decode cX7_write 27 = .ok (.aload_n 0, 1) := by decide +kernel
theorem dX7_write_28 : decode cX7_write 28 = .ok (.getfield 46, 3) := by decide +kernel
theorem dX7_write_31 : decode cX7_write 31 = .ok (.aload_n 0, 1) := by decide +kernel
theorem dX7_write_32 : decode cX7_write 32 = .ok (.getfield 74, 3) := by decide +kernel
theorem dX7_write_35 : decode cX7_write 35 = .ok (.iload_n 1, 1) := by decide +kernel
theorem dX7_write_36 : decode cX7_write 36 = .ok (.iastore, 1) := by decide +kernel
theorem dX7_write_37 : decode cX7_write 37 = .ok (.aload_n 0, 1) := by decide +kernel
theorem dX7_write_38 : decode cX7_write 38 = .ok (.dup, 1) := by decide +kernel
theorem dX7_write_39 : decode cX7_write 39 = .ok (.getfield 74, 3) := by decide +kernel
theorem dX7_write_42 : decode cX7_write 42 = .ok (.iconst 1, 1) := by decide +kernel
theorem dX7_write_43 : decode cX7_write 43 = .ok (.iadd, 1) := by decide +kernel
theorem dX7_write_44 : decode cX7_write 44 = .ok (.putfield 74, 3) := by decide +kernel
theorem dX7_write_47 : decode cX7_write 47 = .ok (.aload_n 0, 1) := by decide +kernel
theorem dX7_write_48 : decode cX7_write 48 = .ok (.getfield 74, 3) := by decide +kernel
theorem dX7_write_51 : decode cX7_write 51 = .ok (.ireturn, 1) := by decide +kernel
theorem dX7_wipe_0 : decode cX7_wipe 0 = .ok (.aload_n 0, 1) := by decide +kernel
theorem dX7_wipe_1 : decode cX7_wipe 1 = .ok (.getfield 74, 3) := by decide +kernel
theorem dX7_wipe_4 : decode cX7_wipe 4 = .ok (.istore_n 1, 1) := by decide +kernel
theorem dX7_wipe_5 : decode cX7_wipe 5 = .ok (.aload_n 0, 1) := by decide +kernel
theorem dX7_wipe_6 : decode cX7_wipe 6 = .ok (.iconst 0, 1) := by decide +kernel
theorem dX7_wipe_7 : decode cX7_wipe 7 = .ok (.putfield 74, 3) := by decide +kernel
theorem dX7_wipe_10 : decode cX7_wipe 10 = .ok (.iload_n 1, 1) := by decide +kernel
theorem dX7_wipe_11 : decode cX7_wipe 11 = .ok (.ireturn, 1) := by decide +kernel
theorem dX7_figureOf_0 : decode cX7_figureOf 0 = .ok (.aload_n 0, 1) := by decide +kernel
theorem dX7_figureOf_1 : decode cX7_figureOf 1 = .ok (.getfield 78, 3) := by decide +kernel
theorem dX7_figureOf_4 : decode cX7_figureOf 4 = .ok (.bipush (-9), 2) := by decide +kernel
theorem dX7_figureOf_6 : decode cX7_figureOf 6 = .ok (.if_icmp .ne 18, 3) := by decide +kernel
theorem dX7_figureOf_9 : decode cX7_figureOf 9 = .ok (.aload_n 0, 1) := by decide +kernel
theorem dX7_figureOf_10 : decode cX7_figureOf 10 = .ok (.getfield 81, 3) := by decide +kernel
theorem dX7_figureOf_13 : decode cX7_figureOf 13 = .ok (.aload_n 0, 1) := by decide +kernel
theorem dX7_figureOf_14 : decode cX7_figureOf 14 = .ok (.getfield 74, 3) := by decide +kernel
theorem dX7_figureOf_17 : decode cX7_figureOf 17 = .ok (.if_icmp .ge 7, 3) := by decide +kernel
theorem dX7_figureOf_20 : decode cX7_figureOf 20 = .ok (.iconst 1, 1) := by decide +kernel
theorem dX7_figureOf_21 : decode cX7_figureOf 21 = .ok (.goto 4, 3) := by decide +kernel
theorem dX7_figureOf_24 : decode cX7_figureOf 24 = .ok (.iconst 0, 1) := by decide +kernel
theorem dX7_figureOf_25 : decode cX7_figureOf 25 = .ok (.istore_n 3, 1) := by decide +kernel
theorem dX7_figureOf_26 : decode cX7_figureOf 26 = .ok (.iload_n 3, 1) := by decide +kernel
theorem dX7_figureOf_27 : decode cX7_figureOf 27 = .ok (.ifCond .eq 18, 3) := by decide +kernel
theorem dX7_figureOf_30 : decode cX7_figureOf 30 = .ok (.aload_n 0, 1) := by decide +kernel
theorem dX7_figureOf_31 : decode cX7_figureOf 31 = .ok (.getfield 46, 3) := by decide +kernel
theorem dX7_figureOf_34 : decode cX7_figureOf 34 = .ok (.aload_n 0, 1) := by decide +kernel
theorem dX7_figureOf_35 : decode cX7_figureOf 35 = .ok (.getfield 81, 3) := by decide +kernel
theorem dX7_figureOf_38 : decode cX7_figureOf 38 = .ok (.iaload, 1) := by decide +kernel
theorem dX7_figureOf_39 : decode cX7_figureOf 39 = .ok (.bipush 48, 2) := by decide +kernel
theorem dX7_figureOf_41 : decode cX7_figureOf 41 = .ok (.isub, 1) := by decide +kernel
theorem dX7_figureOf_42 : decode cX7_figureOf 42 = .ok (.goto 4, 3) := by decide +kernel
theorem dX7_figureOf_45 : decode cX7_figureOf 45 = .ok (.iconst 0, 1) := by decide +kernel
theorem dX7_figureOf_46 : decode cX7_figureOf 46 = .ok (.istore 4, 2) := by decide +kernel
theorem dX7_figureOf_48 : decode cX7_figureOf 48 = .ok (.iload_n 3, 1) := by decide +kernel
theorem dX7_figureOf_49 : decode cX7_figureOf 49 = .ok (.ifCond .eq 21, 3) := by decide +kernel
theorem dX7_figureOf_52 : decode cX7_figureOf 52 = .ok (.iload 4, 2) := by decide +kernel
theorem dX7_figureOf_54 : decode cX7_figureOf 54 = .ok (.i2l, 1) := by decide +kernel
theorem dX7_figureOf_55 : decode cX7_figureOf 55 = .ok (.lconst 0, 1) := by decide +kernel
theorem dX7_figureOf_56 : decode cX7_figureOf 56 = .ok (.iload_n 1, 1) := by decide +kernel
theorem dX7_figureOf_57 : decode cX7_figureOf 57 = .ok (.i2l, 1) := by decide +kernel
theorem dX7_figureOf_58 : decode cX7_figureOf 58 = .ok (.invokestatic 70, 3) := by decide +kernel
theorem dX7_figureOf_61 : decode cX7_figureOf 61 = .ok (.ifCond .eq 9, 3) := by decide +kernel
theorem dX7_figureOf_64 : decode cX7_figureOf 64 = .ok (.iload 4, 2) := by decide +kernel
theorem dX7_figureOf_66 : decode cX7_figureOf 66 = .ok (.iload_n 2, 1) := by decide +kernel
theorem dX7_figureOf_67 : decode cX7_figureOf 67 = .ok (.if_icmp .ne 29, 3) := by decide +kernel
theorem dX7_figureOf_70 : decode cX7_figureOf 70 = .ok (.aload_n 0, 1) := by decide +kernel
theorem dX7_figureOf_71 : decode cX7_figureOf 71 = .ok (.aload_n 0, 1) := by decide +kernel
theorem dX7_figureOf_72 : decode cX7_figureOf 72 = .ok (.getfield 78, 3) := by decide +kernel
theorem dX7_figureOf_75 : decode cX7_figureOf 75 = .ok (.bipush (-9), 2) := by decide +kernel
theorem dX7_figureOf_77 : decode cX7_figureOf 77 = .ok (.if_icmp .ne 10, 3) := by decide +kernel
theorem dX7_figureOf_80 : decode cX7_figureOf 80 = .ok (.aload_n 0, 1) := by decide +kernel
theorem dX7_figureOf_81 : decode cX7_figureOf 81 = .ok (.getfield 81, 3) := by decide +kernel
theorem dX7_figureOf_84 : decode cX7_figureOf 84 = .ok (.goto 7, 3) := by decide +kernel
theorem dX7_figureOf_87 : decode cX7_figureOf 87 = .ok (.aload_n 0, 1) := by decide +kernel
theorem dX7_figureOf_88 : decode cX7_figureOf 88 = .ok (.getfield 78, 3) := by decide +kernel
theorem dX7_figureOf_91 : decode cX7_figureOf 91 = .ok (.putfield 78, 3) := by decide +kernel
theorem dX7_figureOf_94 : decode cX7_figureOf 94 = .ok (.iconst 0, 1) := by decide +kernel
theorem dX7_figureOf_95 : decode cX7_figureOf 95 = .ok (.ireturn, 1) := by decide +kernel
theorem dX7_figureOf_96 : decode cX7_figureOf 96 = .ok (.aload_n 0, 1) := by decide +kernel
theorem dX7_figureOf_97 : decode cX7_figureOf 97 = .ok (.dup, 1) := by decide +kernel
theorem dX7_figureOf_98 : decode cX7_figureOf 98 = .ok (.getfield 81, 3) := by decide +kernel
theorem dX7_figureOf_101 : decode cX7_figureOf 101 = .ok (.iconst 1, 1) := by decide +kernel
theorem dX7_figureOf_102 : decode cX7_figureOf 102 = .ok (.iadd, 1) := by decide +kernel
theorem dX7_figureOf_103 : decode cX7_figureOf 103 = .ok (.putfield 81, 3) := by decide +kernel
theorem dX7_figureOf_106 : decode cX7_figureOf 106 = .ok (.iload 4, 2) := by decide +kernel
theorem dX7_figureOf_108 : decode cX7_figureOf 108 = .ok (.ireturn, 1) := by decide +kernel
theorem dX7_readText_0 : decode cX7_readText 0 = .ok (.aload_n 0, 1) := by decide +kernel
theorem dX7_readText_1 : decode cX7_readText 1 = .ok (.iconst 0, 1) := by decide +kernel
theorem dX7_readText_2 : decode cX7_readText 2 = .ok (.putfield 81, 3) := by decide +kernel
theorem dX7_readText_5 : decode cX7_readText 5 = .ok (.aload_n 0, 1) := by decide +kernel
theorem dX7_readText_6 : decode cX7_readText 6 = .ok (.bipush (-9), 2) := by decide +kernel
theorem dX7_readText_8 : decode cX7_readText 8 = .ok (.putfield 78, 3) := by decide +kernel
theorem dX7_readText_11 : decode cX7_readText 11 = .ok (.aload_n 0, 1) := by decide +kernel
theorem dX7_readText_12 : decode cX7_readText 12 = .ok (.iconst 0, 1) := by decide +kernel
theorem dX7_readText_13 : decode cX7_readText 13 = .ok (.putfield 84, 3) := by decide +kernel
theorem dX7_readText_16 : decode cX7_readText 16 = .ok (.aload_n 0, 1) := by decide +kernel
theorem dX7_readText_17 : decode cX7_readText 17 = .ok (.iconst 0, 1) := by decide +kernel
theorem dX7_readText_18 : decode cX7_readText 18 = .ok (.putfield 87, 3) := by decide +kernel
theorem dX7_readText_21 : decode cX7_readText 21 = .ok (.aload_n 0, 1) := by decide +kernel
theorem dX7_readText_22 : decode cX7_readText 22 = .ok (.iconst 0, 1) := by decide +kernel
theorem dX7_readText_23 : decode cX7_readText 23 = .ok (.putfield 90, 3) := by decide +kernel
theorem dX7_readText_26 : decode cX7_readText 26 = .ok (.aload_n 0, 1) := by decide +kernel
theorem dX7_readText_27 : decode cX7_readText 27 = .ok (.getfield 74, 3) := by decide +kernel
theorem dX7_readText_30 : decode cX7_readText 30 = .ok (.ifCond .eq 14, 3) := by decide +kernel
theorem dX7_readText_33 : decode cX7_readText 33 = .ok (.aload_n 0, 1) := by decide +kernel
theorem dX7_readText_34 : decode cX7_readText 34 = .ok (.getfield 46, 3) := by decide +kernel
theorem dX7_readText_37 : decode cX7_readText 37 = .ok (.iconst 0, 1) := by decide +kernel
theorem dX7_readText_38 : decode cX7_readText 38 = .ok (.iaload, 1) := by decide +kernel
theorem dX7_readText_39 : decode cX7_readText 39 = .ok (.bipush 83, 2) := by decide +kernel
theorem dX7_readText_41 : decode cX7_readText 41 = .ok (.if_icmp .eq 5, 3) := by decide +kernel
theorem dX7_readText_44 : decode cX7_readText 44 = .ok (.iconst 0, 1) := by decide +kernel
theorem dX7_readText_45 : decode cX7_readText 45 = .ok (.ireturn, 1) := by decide +kernel
theorem dX7_readText_46 : decode cX7_readText 46 = .ok (.aload_n 0, 1) := by decide +kernel
theorem dX7_readText_47 : decode cX7_readText 47 = .ok (.iconst 1, 1) := by decide +kernel
theorem dX7_readText_48 : decode cX7_readText 48 = .ok (.putfield 81, 3) := by decide +kernel
theorem dX7_readText_51 : decode cX7_readText 51 = .ok (.aload_n 0, 1) := by decide +kernel
theorem dX7_readText_52 : decode cX7_readText 52 = .ok (.getfield 78, 3) := by decide +kernel
theorem dX7_readText_55 : decode cX7_readText 55 = .ok (.bipush (-9), 2) := by decide +kernel
theorem dX7_readText_57 : decode cX7_readText 57 = .ok (.if_icmp .ne 30, 3) := by decide +kernel
theorem dX7_readText_60 : decode cX7_readText 60 = .ok (.aload_n 0, 1) := by decide +kernel
theorem dX7_readText_61 : decode cX7_readText 61 = .ok (.getfield 81, 3) := by decide +kernel
theorem dX7_readText_64 : decode cX7_readText 64 = .ok (.aload_n 0, 1) := by decide +kernel
theorem dX7_readText_65 : decode cX7_readText 65 = .ok (.getfield 74, 3) := by decide +kernel
theorem dX7_readText_68 : decode cX7_readText 68 = .ok (.if_icmp .ge 19, 3) := by decide +kernel
theorem dX7_readText_71 : decode cX7_readText 71 = .ok (.aload_n 0, 1) := by decide +kernel
theorem dX7_readText_72 : decode cX7_readText 72 = .ok (.aload_n 0, 1) := by decide +kernel
theorem dX7_readText_73 : decode cX7_readText 73 = .ok (.getfield 46, 3) := by decide +kernel
theorem dX7_readText_76 : decode cX7_readText 76 = .ok (.aload_n 0, 1) := by decide +kernel
theorem dX7_readText_77 : decode cX7_readText 77 = .ok (.getfield 81, 3) := by decide +kernel
theorem dX7_readText_80 : decode cX7_readText 80 = .ok (.iaload, 1) := by decide +kernel
theorem dX7_readText_81 : decode cX7_readText 81 = .ok (.invokevirtual 93, 3) := by decide +kernel
theorem dX7_readText_84 : decode cX7_readText 84 = .ok (.goto (-33), 3) := by decide +kernel
theorem dX7_readText_87 : decode cX7_readText 87 = .ok (.aload_n 0, 1) := by decide +kernel
theorem dX7_readText_88 : decode cX7_readText 88 = .ok (.getfield 78, 3) := by decide +kernel
theorem dX7_readText_91 : decode cX7_readText 91 = .ok (.ireturn, 1) := by decide +kernel
theorem dX7_readPart_0 : decode cX7_readPart 0 = .ok (.iload_n 1, 1) := by decide +kernel
theorem dX7_readPart_1 : decode cX7_readPart 1 = .ok (.bipush 78, 2) := by decide +kernel
theorem dX7_readPart_3 : decode cX7_readPart 3 = .ok (.if_icmp .ne 105, 3) := by decide +kernel
theorem dX7_readPart_6 : decode cX7_readPart 6 = .ok (.aload_n 0, 1) := by decide +kernel
theorem dX7_readPart_7 : decode cX7_readPart 7 = .ok (.getfield 84, 3) := by decide +kernel
theorem dX7_readPart_10 : decode cX7_readPart 10 = .ok (.bipush 7, 2) := by decide +kernel
theorem dX7_readPart_12 : decode cX7_readPart 12 = .ok (.if_icmp .ge 96, 3) := by decide +kernel
theorem dX7_readPart_15 : decode cX7_readPart 15 = .ok (.aload_n 0, 1) := by decide +kernel
theorem dX7_readPart_16 : decode cX7_readPart 16 = .ok (.dup, 1) := by decide +kernel
theorem dX7_readPart_17 : decode cX7_readPart 17 = .ok (.getfield 81, 3) := by decide +kernel
theorem dX7_readPart_20 : decode cX7_readPart 20 = .ok (.iconst 1, 1) := by decide +kernel
theorem dX7_readPart_21 : decode cX7_readPart 21 = .ok (.iadd, 1) := by decide +kernel
theorem dX7_readPart_22 : decode cX7_readPart 22 = .ok (.putfield 81, 3) := by decide +kernel
theorem dX7_readPart_25 : decode cX7_readPart 25 = .ok (.iconst 4, 1) := by decide +kernel
theorem dX7_readPart_26 : decode cX7_readPart 26 = .ok (.aload_n 0, 1) := by decide +kernel
theorem dX7_readPart_27 : decode cX7_readPart 27 = .ok (.getfield 84, 3) := by decide +kernel
theorem dX7_readPart_30 : decode cX7_readPart 30 = .ok (.imul, 1) := by decide +kernel
theorem dX7_readPart_31 : decode cX7_readPart 31 = .ok (.istore_n 2, 1) := by decide +kernel
theorem dX7_readPart_32 : decode cX7_readPart 32 = .ok (.aload_n 0, 1) := by decide +kernel
theorem dX7_readPart_33 : decode cX7_readPart 33 = .ok (.getfield 37, 3) := by decide +kernel
theorem dX7_readPart_36 : decode cX7_readPart 36 = .ok (.iload_n 2, 1) := by decide +kernel
theorem dX7_readPart_37 : decode cX7_readPart 37 = .ok (.aload_n 0, 1) := by decide +kernel
theorem dX7_readPart_38 : decode cX7_readPart 38 = .ok (.iconst 5, 1) := by decide +kernel
theorem dX7_readPart_39 : decode cX7_readPart 39 = .ok (.bipush (-9), 2) := by decide +kernel
theorem dX7_readPart_41 : decode cX7_readPart 41 = .ok (.invokevirtual 97, 3) := by decide +kernel
theorem dX7_readPart_44 : decode cX7_readPart 44 = .ok (.iastore, 1) := by decide +kernel
theorem dX7_readPart_45 : decode cX7_readPart 45 = .ok (.aload_n 0, 1) := by decide +kernel
theorem dX7_readPart_46 : decode cX7_readPart 46 = .ok (.getfield 37, 3) := by decide +kernel
theorem dX7_readPart_49 : decode cX7_readPart 49 = .ok (.iload_n 2, 1) := by decide +kernel
theorem dX7_readPart_50 : decode cX7_readPart 50 = .ok (.iconst 1, 1) := by decide +kernel
theorem dX7_readPart_51 : decode cX7_readPart 51 = .ok (.iadd, 1) := by decide +kernel
theorem dX7_readPart_52 : decode cX7_readPart 52 = .ok (.aload_n 0, 1) := by decide +kernel
theorem dX7_readPart_53 : decode cX7_readPart 53 = .ok (.iconst 5, 1) := by decide +kernel
theorem dX7_readPart_54 : decode cX7_readPart 54 = .ok (.aload_n 0, 1) := by decide +kernel
theorem dX7_readPart_55 : decode cX7_readPart 55 = .ok (.getfield 37, 3) := by decide +kernel
theorem dX7_readPart_58 : decode cX7_readPart 58 = .ok (.iload_n 2, 1) := by decide +kernel
theorem dX7_readPart_59 : decode cX7_readPart 59 = .ok (.iaload, 1) := by decide +kernel
theorem dX7_readPart_60 : decode cX7_readPart 60 = .ok (.invokevirtual 97, 3) := by decide +kernel
theorem dX7_readPart_63 : decode cX7_readPart 63 = .ok (.iastore, 1) := by decide +kernel
theorem dX7_readPart_64 : decode cX7_readPart 64 = .ok (.aload_n 0, 1) := by decide +kernel
theorem dX7_readPart_65 : decode cX7_readPart 65 = .ok (.getfield 37, 3) := by decide +kernel
theorem dX7_readPart_68 : decode cX7_readPart 68 = .ok (.iload_n 2, 1) := by decide +kernel
theorem dX7_readPart_69 : decode cX7_readPart 69 = .ok (.iconst 2, 1) := by decide +kernel
theorem dX7_readPart_70 : decode cX7_readPart 70 = .ok (.iadd, 1) := by decide +kernel
theorem dX7_readPart_71 : decode cX7_readPart 71 = .ok (.aload_n 0, 1) := by decide +kernel
theorem dX7_readPart_72 : decode cX7_readPart 72 = .ok (.bipush 9, 2) := by decide +kernel
theorem dX7_readPart_74 : decode cX7_readPart 74 = .ok (.bipush (-9), 2) := by decide +kernel
theorem dX7_readPart_76 : decode cX7_readPart 76 = .ok (.invokevirtual 97, 3) := by decide +kernel
theorem dX7_readPart_79 : decode cX7_readPart 79 = .ok (.iastore, 1) := by decide +kernel
theorem dX7_readPart_80 : decode cX7_readPart 80 = .ok (.aload_n 0, 1) := by decide +kernel
theorem dX7_readPart_81 : decode cX7_readPart 81 = .ok (.getfield 37, 3) := by decide +kernel
theorem dX7_readPart_84 : decode cX7_readPart 84 = .ok (.iload_n 2, 1) := by decide +kernel
theorem dX7_readPart_85 : decode cX7_readPart 85 = .ok (.iconst 3, 1) := by decide +kernel
theorem dX7_readPart_86 : decode cX7_readPart 86 = .ok (.iadd, 1) := by decide +kernel
theorem dX7_readPart_87 : decode cX7_readPart 87 = .ok (.aload_n 0, 1) := by decide +kernel
theorem dX7_readPart_88 : decode cX7_readPart 88 = .ok (.iconst 3, 1) := by decide +kernel
theorem dX7_readPart_89 : decode cX7_readPart 89 = .ok (.bipush (-9), 2) := by decide +kernel
theorem dX7_readPart_91 : decode cX7_readPart 91 = .ok (.invokevirtual 97, 3) := by decide +kernel
theorem dX7_readPart_94 : decode cX7_readPart 94 = .ok (.iastore, 1) := by decide +kernel
theorem dX7_readPart_95 : decode cX7_readPart 95 = .ok (.aload_n 0, 1) := by decide +kernel
theorem dX7_readPart_96 : decode cX7_readPart 96 = .ok (.dup, 1) := by decide +kernel
theorem dX7_readPart_97 : decode cX7_readPart 97 = .ok (.getfield 84, 3) := by decide +kernel
theorem dX7_readPart_100 : decode cX7_readPart 100 = .ok (.iconst 1, 1) := by decide +kernel
theorem dX7_readPart_101 : decode cX7_readPart 101 = .ok (.iadd, 1) := by decide +kernel
theorem dX7_readPart_102 : decode cX7_readPart 102 = .ok (.putfield 84, 3) := by decide +kernel
theorem dX7_readPart_105 : decode cX7_readPart 105 = .ok (.goto 171, 3) := by decide +kernel
theorem dX7_readPart_108 : decode cX7_readPart 108 = .ok (.iload_n 1, 1) := by decide +kernel
theorem dX7_readPart_109 : decode cX7_readPart 109 = .ok (.bipush 87, 2) := by decide +kernel
theorem dX7_readPart_111 : decode cX7_readPart 111 = .ok (.if_icmp .ne 73, 3) := by decide +kernel
theorem dX7_readPart_114 : decode cX7_readPart 114 = .ok (.aload_n 0, 1) := by decide +kernel
theorem dX7_readPart_115 : decode cX7_readPart 115 = .ok (.getfield 87, 3) := by decide +kernel
theorem dX7_readPart_118 : decode cX7_readPart 118 = .ok (.iconst 4, 1) := by decide +kernel
theorem dX7_readPart_119 : decode cX7_readPart 119 = .ok (.if_icmp .ge 65, 3) := by decide +kernel
theorem dX7_readPart_122 : decode cX7_readPart 122 = .ok (.aload_n 0, 1) := by decide +kernel
theorem dX7_readPart_123 : decode cX7_readPart 123 = .ok (.dup, 1) := by decide +kernel
theorem dX7_readPart_124 : decode cX7_readPart 124 = .ok (.getfield 81, 3) := by decide +kernel
theorem dX7_readPart_127 : decode cX7_readPart 127 = .ok (.iconst 1, 1) := by decide +kernel
theorem dX7_readPart_128 : decode cX7_readPart 128 = .ok (.iadd, 1) := by decide +kernel
theorem dX7_readPart_129 : decode cX7_readPart 129 = .ok (.putfield 81, 3) := by decide +kernel
theorem dX7_readPart_132 : decode cX7_readPart 132 = .ok (.aload_n 0, 1) := by decide +kernel
theorem dX7_readPart_133 : decode cX7_readPart 133 = .ok (.getfield 40, 3) := by decide +kernel
theorem dX7_readPart_136 : decode cX7_readPart 136 = .ok (.iconst 2, 1) := by decide +kernel
theorem dX7_readPart_137 : decode cX7_readPart 137 = .ok (.aload_n 0, 1) := by decide +kernel
theorem dX7_readPart_138 : decode cX7_readPart 138 = .ok (.getfield 87, 3) := by decide +kernel
theorem dX7_readPart_141 : decode cX7_readPart 141 = .ok (.imul, 1) := by decide +kernel
theorem dX7_readPart_142 : decode cX7_readPart 142 = .ok (.aload_n 0, 1) := by decide +kernel
theorem dX7_readPart_143 : decode cX7_readPart 143 = .ok (.iconst 5, 1) := by decide +kernel
theorem dX7_readPart_144 : decode cX7_readPart 144 = .ok (.bipush (-9), 2) := by decide +kernel
theorem dX7_readPart_146 : decode cX7_readPart 146 = .ok (.invokevirtual 97, 3) := by decide +kernel
theorem dX7_readPart_149 : decode cX7_readPart 149 = .ok (.iastore, 1) := by decide +kernel
theorem dX7_readPart_150 : decode cX7_readPart 150 = .ok (.aload_n 0, 1) := by decide +kernel
theorem dX7_readPart_151 : decode cX7_readPart 151 = .ok (.getfield 40, 3) := by decide +kernel
theorem dX7_readPart_154 : decode cX7_readPart 154 = .ok (.iconst 2, 1) := by decide +kernel
theorem dX7_readPart_155 : decode cX7_readPart 155 = .ok (.aload_n 0, 1) := by decide +kernel
theorem dX7_readPart_156 : decode cX7_readPart 156 = .ok (.getfield 87, 3) := by decide +kernel
theorem dX7_readPart_159 : decode cX7_readPart 159 = .ok (.imul, 1) := by decide +kernel
theorem dX7_readPart_160 : decode cX7_readPart 160 = .ok (.iconst 1, 1) := by decide +kernel
theorem dX7_readPart_161 : decode cX7_readPart 161 = .ok (.iadd, 1) := by decide +kernel
theorem dX7_readPart_162 : decode cX7_readPart 162 = .ok (.aload_n 0, 1) := by decide +kernel
theorem dX7_readPart_163 : decode cX7_readPart 163 = .ok (.bipush 9, 2) := by decide +kernel
theorem dX7_readPart_165 : decode cX7_readPart 165 = .ok (.bipush (-9), 2) := by decide +kernel
theorem dX7_readPart_167 : decode cX7_readPart 167 = .ok (.invokevirtual 97, 3) := by decide +kernel
theorem dX7_readPart_170 : decode cX7_readPart 170 = .ok (.iastore, 1) := by decide +kernel
theorem dX7_readPart_171 : decode cX7_readPart 171 = .ok (.aload_n 0, 1) := by decide +kernel
theorem dX7_readPart_172 : decode cX7_readPart 172 = .ok (.dup, 1) := by decide +kernel
theorem dX7_readPart_173 : decode cX7_readPart 173 = .ok (.getfield 87, 3) := by decide +kernel
theorem dX7_readPart_176 : decode cX7_readPart 176 = .ok (.iconst 1, 1) := by decide +kernel
theorem dX7_readPart_177 : decode cX7_readPart 177 = .ok (.iadd, 1) := by decide +kernel
theorem dX7_readPart_178 : decode cX7_readPart 178 = .ok (.putfield 87, 3) := by decide +kernel
theorem dX7_readPart_181 : decode cX7_readPart 181 = .ok (.goto 95, 3) := by decide +kernel
theorem dX7_readPart_184 : decode cX7_readPart 184 = .ok (.iload_n 1, 1) := by decide +kernel
theorem dX7_readPart_185 : decode cX7_readPart 185 = .ok (.bipush 68, 2) := by decide +kernel
theorem dX7_readPart_187 : decode cX7_readPart 187 = .ok (.if_icmp .ne 81, 3) := by decide +kernel
theorem dX7_readPart_190 : decode cX7_readPart 190 = .ok (.aload_n 0, 1) := by decide +kernel
theorem dX7_readPart_191 : decode cX7_readPart 191 = .ok (.getfield 90, 3) := by decide +kernel
theorem dX7_readPart_194 : decode cX7_readPart 194 = .ok (.iconst 3, 1) := by decide +kernel
theorem dX7_readPart_195 : decode cX7_readPart 195 = .ok (.if_icmp .ge 73, 3) := by decide +kernel
theorem dX7_readPart_198 : decode cX7_readPart 198 = .ok (.aload_n 0, 1) := by decide +kernel
theorem dX7_readPart_199 : decode cX7_readPart 199 = .ok (.dup, 1) := by decide +kernel
theorem dX7_readPart_200 : decode cX7_readPart 200 = .ok (.getfield 81, 3) := by decide +kernel
theorem dX7_readPart_203 : decode cX7_readPart 203 = .ok (.iconst 1, 1) := by decide +kernel
theorem dX7_readPart_204 : decode cX7_readPart 204 = .ok (.iadd, 1) := by decide +kernel
theorem dX7_readPart_205 : decode cX7_readPart 205 = .ok (.putfield 81, 3) := by decide +kernel
theorem dX7_readPart_208 : decode cX7_readPart 208 = .ok (.aload_n 0, 1) := by decide +kernel
theorem dX7_readPart_209 : decode cX7_readPart 209 = .ok (.getfield 43, 3) := by decide +kernel
theorem dX7_readPart_212 : decode cX7_readPart 212 = .ok (.iconst 2, 1) := by decide +kernel
theorem dX7_readPart_213 : decode cX7_readPart 213 = .ok (.aload_n 0, 1) := by decide +kernel
theorem dX7_readPart_214 : decode cX7_readPart 214 = .ok (.getfield 90, 3) := by decide +kernel
theorem dX7_readPart_217 : decode cX7_readPart 217 = .ok (.imul, 1) := by decide +kernel
theorem dX7_readPart_218 : decode cX7_readPart 218 = .ok (.aload_n 0, 1) := by decide +kernel
theorem dX7_readPart_219 : decode cX7_readPart 219 = .ok (.iconst 5, 1) := by decide +kernel
theorem dX7_readPart_220 : decode cX7_readPart 220 = .ok (.bipush (-9), 2) := by decide +kernel
theorem dX7_readPart_222 : decode cX7_readPart 222 = .ok (.invokevirtual 97, 3) := by decide +kernel
theorem dX7_readPart_225 : decode cX7_readPart 225 = .ok (.iastore, 1) := by decide +kernel
theorem dX7_readPart_226 : decode cX7_readPart 226 = .ok (.aload_n 0, 1) := by decide +kernel
theorem dX7_readPart_227 : decode cX7_readPart 227 = .ok (.getfield 43, 3) := by decide +kernel
theorem dX7_readPart_230 : decode cX7_readPart 230 = .ok (.iconst 2, 1) := by decide +kernel
theorem dX7_readPart_231 : decode cX7_readPart 231 = .ok (.aload_n 0, 1) := by decide +kernel
theorem dX7_readPart_232 : decode cX7_readPart 232 = .ok (.getfield 90, 3) := by decide +kernel
theorem dX7_readPart_235 : decode cX7_readPart 235 = .ok (.imul, 1) := by decide +kernel
theorem dX7_readPart_236 : decode cX7_readPart 236 = .ok (.iconst 1, 1) := by decide +kernel
theorem dX7_readPart_237 : decode cX7_readPart 237 = .ok (.iadd, 1) := by decide +kernel
theorem dX7_readPart_238 : decode cX7_readPart 238 = .ok (.aload_n 0, 1) := by decide +kernel
theorem dX7_readPart_239 : decode cX7_readPart 239 = .ok (.iconst 5, 1) := by decide +kernel
theorem dX7_readPart_240 : decode cX7_readPart 240 = .ok (.aload_n 0, 1) := by decide +kernel
theorem dX7_readPart_241 : decode cX7_readPart 241 = .ok (.getfield 43, 3) := by decide +kernel
theorem dX7_readPart_244 : decode cX7_readPart 244 = .ok (.iconst 2, 1) := by decide +kernel
theorem dX7_readPart_245 : decode cX7_readPart 245 = .ok (.aload_n 0, 1) := by decide +kernel
theorem dX7_readPart_246 : decode cX7_readPart 246 = .ok (.getfield 90, 3) := by decide +kernel
theorem dX7_readPart_249 : decode cX7_readPart 249 = .ok (.imul, 1) := by decide +kernel
theorem dX7_readPart_250 : decode cX7_readPart 250 = .ok (.iaload, 1) := by decide +kernel
theorem dX7_readPart_251 : decode cX7_readPart 251 = .ok (.invokevirtual 97, 3) := by decide +kernel
theorem dX7_readPart_254 : decode cX7_readPart 254 = .ok (.iastore, 1) := by decide +kernel
theorem dX7_readPart_255 : decode cX7_readPart 255 = .ok (.aload_n 0, 1) := by decide +kernel
theorem dX7_readPart_256 : decode cX7_readPart 256 = .ok (.dup, 1) := by decide +kernel
theorem dX7_readPart_257 : decode cX7_readPart 257 = .ok (.getfield 90, 3) := by decide +kernel
theorem dX7_readPart_260 : decode cX7_readPart 260 = .ok (.iconst 1, 1) := by decide +kernel
theorem dX7_readPart_261 : decode cX7_readPart 261 = .ok (.iadd, 1) := by decide +kernel
theorem dX7_readPart_262 : decode cX7_readPart 262 = .ok (.putfield 90, 3) := by decide +kernel
theorem dX7_readPart_265 : decode cX7_readPart 265 = .ok (.goto 11, 3) := by decide +kernel
theorem dX7_readPart_268 : decode cX7_readPart 268 = .ok (.aload_n 0, 1) := by decide +kernel
theorem dX7_readPart_269 : decode cX7_readPart 269 = .ok (.aload_n 0, 1) := by decide +kernel
theorem dX7_readPart_270 : decode cX7_readPart 270 = .ok (.getfield 81, 3) := by decide +kernel
theorem dX7_readPart_273 : decode cX7_readPart 273 = .ok (.putfield 78, 3) := by decide +kernel
theorem dX7_readPart_276 : decode cX7_readPart 276 = .ok (.return_, 1) := by decide +kernel
theorem dX7_fault_0 : decode cX7_fault 0 = .ok (.aload_n 0, 1) := by decide +kernel
theorem dX7_fault_1 : decode cX7_fault 1 = .ok (.invokevirtual 101, 3) := by decide +kernel
theorem dX7_fault_4 : decode cX7_fault 4 = .ok (.ireturn, 1) := by decide +kernel
theorem dX7_town_0 : decode cX7_town 0 = .ok (.aload_n 0, 1) := by decide +kernel
theorem dX7_town_1 : decode cX7_town 1 = .ok (.invokevirtual 101, 3) := by decide +kernel
theorem dX7_town_4 : decode cX7_town 4 = .ok (.bipush (-9), 2) := by decide +kernel
theorem dX7_town_6 : decode cX7_town 6 = .ok (.if_icmp .eq 6, 3) := by decide +kernel
theorem dX7_town_9 : decode cX7_town 9 = .ok (.bipush (-3), 2) := by decide +kernel
theorem dX7_town_11 : decode cX7_town 11 = .ok (.ireturn, 1) := by decide +kernel
theorem dX7_town_12 : decode cX7_town 12 = .ok (.aload_n 0, 1) := by decide +kernel
theorem dX7_town_13 : decode cX7_town 13 = .ok (.aload_n 0, 1) := by decide +kernel
theorem dX7_town_14 : decode cX7_town 14 = .ok (.getfield 84, 3) := by decide +kernel
theorem dX7_town_17 : decode cX7_town 17 = .ok (.putfield 105, 3) := by decide +kernel
theorem dX7_town_20 : decode cX7_town 20 = .ok (.aload_n 0, 1) := by decide +kernel
theorem dX7_town_21 : decode cX7_town 21 = .ok (.aload_n 0, 1) := by decide +kernel
theorem dX7_town_22 : decode cX7_town 22 = .ok (.getfield 87, 3) := by decide +kernel
theorem dX7_town_25 : decode cX7_town 25 = .ok (.putfield 108, 3) := by decide +kernel
theorem dX7_town_28 : decode cX7_town 28 = .ok (.aload_n 0, 1) := by decide +kernel
theorem dX7_town_29 : decode cX7_town 29 = .ok (.aload_n 0, 1) := by decide +kernel
theorem dX7_town_30 : decode cX7_town 30 = .ok (.getfield 90, 3) := by decide +kernel
theorem dX7_town_33 : decode cX7_town 33 = .ok (.putfield 111, 3) := by decide +kernel
theorem dX7_town_36 : decode cX7_town 36 = .ok (.iconst 0, 1) := by decide +kernel
theorem dX7_town_37 : decode cX7_town 37 = .ok (.istore_n 1, 1) := by decide +kernel
theorem dX7_town_38 : decode cX7_town 38 = .ok (.iload_n 1, 1) := by decide +kernel
theorem dX7_town_39 : decode cX7_town 39 = .ok (.bipush 9, 2) := by decide +kernel
theorem dX7_town_41 : decode cX7_town 41 = .ok (.if_icmp .ge 16, 3) := by decide +kernel
theorem dX7_town_44 : decode cX7_town 44 = .ok (.aload_n 0, 1) := by decide +kernel
theorem dX7_town_45 : decode cX7_town 45 = .ok (.getfield 34, 3) := by decide +kernel
theorem dX7_town_48 : decode cX7_town 48 = .ok (.iload_n 1, 1) := by decide +kernel
theorem dX7_town_49 : decode cX7_town 49 = .ok (.iconst 0, 1) := by decide +kernel
theorem dX7_town_50 : decode cX7_town 50 = .ok (.iastore, 1) := by decide +kernel
theorem dX7_town_51 : decode cX7_town 51 = .ok (.iinc 1 1, 3) := by decide +kernel
theorem dX7_town_54 : decode cX7_town 54 = .ok (.goto (-16), 3) := by decide +kernel
theorem dX7_town_57 : decode cX7_town 57 = .ok (.iconst 0, 1) := by decide +kernel
theorem dX7_town_58 : decode cX7_town 58 = .ok (.istore_n 1, 1) := by decide +kernel
theorem dX7_town_59 : decode cX7_town 59 = .ok (.iload_n 1, 1) := by decide +kernel
theorem dX7_town_60 : decode cX7_town 60 = .ok (.aload_n 0, 1) := by decide +kernel
theorem dX7_town_61 : decode cX7_town 61 = .ok (.getfield 105, 3) := by decide +kernel
theorem dX7_town_64 : decode cX7_town 64 = .ok (.if_icmp .ge 71, 3) := by decide +kernel
theorem dX7_town_67 : decode cX7_town 67 = .ok (.aload_n 0, 1) := by decide +kernel
theorem dX7_town_68 : decode cX7_town 68 = .ok (.getfield 7, 3) := by decide +kernel
theorem dX7_town_71 : decode cX7_town 71 = .ok (.iload_n 1, 1) := by decide +kernel
theorem dX7_town_72 : decode cX7_town 72 = .ok (.aload_n 0, 1) := by decide +kernel
theorem dX7_town_73 : decode cX7_town 73 = .ok (.getfield 37, 3) := by decide +kernel
theorem dX7_town_76 : decode cX7_town 76 = .ok (.iconst 4, 1) := by decide +kernel
theorem dX7_town_77 : decode cX7_town 77 = .ok (.iload_n 1, 1) := by decide +kernel
theorem dX7_town_78 : decode cX7_town 78 = .ok (.imul, 1) := by decide +kernel
theorem dX7_town_79 : decode cX7_town 79 = .ok (.iaload, 1) := by decide +kernel
theorem dX7_town_80 : decode cX7_town 80 = .ok (.iastore, 1) := by decide +kernel
theorem dX7_town_81 : decode cX7_town 81 = .ok (.aload_n 0, 1) := by decide +kernel
theorem dX7_town_82 : decode cX7_town 82 = .ok (.getfield 13, 3) := by decide +kernel
theorem dX7_town_85 : decode cX7_town 85 = .ok (.iload_n 1, 1) := by decide +kernel
theorem dX7_town_86 : decode cX7_town 86 = .ok (.aload_n 0, 1) := by decide +kernel
theorem dX7_town_87 : decode cX7_town 87 = .ok (.getfield 37, 3) := by decide +kernel
theorem dX7_town_90 : decode cX7_town 90 = .ok (.iconst 4, 1) := by decide +kernel
theorem dX7_town_91 : decode cX7_town 91 = .ok (.iload_n 1, 1) := by decide +kernel
theorem dX7_town_92 : decode cX7_town 92 = .ok (.imul, 1) := by decide +kernel
theorem dX7_town_93 : decode cX7_town 93 = .ok (.iconst 1, 1) := by decide +kernel
theorem dX7_town_94 : decode cX7_town 94 = .ok (.iadd, 1) := by decide +kernel
theorem dX7_town_95 : decode cX7_town 95 = .ok (.iaload, 1) := by decide +kernel
theorem dX7_town_96 : decode cX7_town 96 = .ok (.iastore, 1) := by decide +kernel
theorem dX7_town_97 : decode cX7_town 97 = .ok (.aload_n 0, 1) := by decide +kernel
theorem dX7_town_98 : decode cX7_town 98 = .ok (.getfield 16, 3) := by decide +kernel
theorem dX7_town_101 : decode cX7_town 101 = .ok (.iload_n 1, 1) := by decide +kernel
theorem dX7_town_102 : decode cX7_town 102 = .ok (.aload_n 0, 1) := by decide +kernel
theorem dX7_town_103 : decode cX7_town 103 = .ok (.getfield 37, 3) := by decide +kernel
theorem dX7_town_106 : decode cX7_town 106 = .ok (.iconst 4, 1) := by decide +kernel
theorem dX7_town_107 : decode cX7_town 107 = .ok (.iload_n 1, 1) := by decide +kernel
theorem dX7_town_108 : decode cX7_town 108 = .ok (.imul, 1) := by decide +kernel
theorem dX7_town_109 : decode cX7_town 109 = .ok (.iconst 2, 1) := by decide +kernel
theorem dX7_town_110 : decode cX7_town 110 = .ok (.iadd, 1) := by decide +kernel
theorem dX7_town_111 : decode cX7_town 111 = .ok (.iaload, 1) := by decide +kernel
theorem dX7_town_112 : decode cX7_town 112 = .ok (.iastore, 1) := by decide +kernel
theorem dX7_town_113 : decode cX7_town 113 = .ok (.aload_n 0, 1) := by decide +kernel
theorem dX7_town_114 : decode cX7_town 114 = .ok (.getfield 19, 3) := by decide +kernel
theorem dX7_town_117 : decode cX7_town 117 = .ok (.iload_n 1, 1) := by decide +kernel
theorem dX7_town_118 : decode cX7_town 118 = .ok (.aload_n 0, 1) := by decide +kernel
theorem dX7_town_119 : decode cX7_town 119 = .ok (.getfield 37, 3) := by decide +kernel
theorem dX7_town_122 : decode cX7_town 122 = .ok (.iconst 4, 1) := by decide +kernel
theorem dX7_town_123 : decode cX7_town 123 = .ok (.iload_n 1, 1) := by decide +kernel
theorem dX7_town_124 : decode cX7_town 124 = .ok (.imul, 1) := by decide +kernel
theorem dX7_town_125 : decode cX7_town 125 = .ok (.iconst 3, 1) := by decide +kernel
theorem dX7_town_126 : decode cX7_town 126 = .ok (.iadd, 1) := by decide +kernel
theorem dX7_town_127 : decode cX7_town 127 = .ok (.iaload, 1) := by decide +kernel
theorem dX7_town_128 : decode cX7_town 128 = .ok (.iastore, 1) := by decide +kernel
theorem dX7_town_129 : decode cX7_town 129 = .ok (.iinc 1 1, 3) := by decide +kernel
theorem dX7_town_132 : decode cX7_town 132 = .ok (.goto (-73), 3) := by decide +kernel
theorem dX7_town_135 : decode cX7_town 135 = .ok (.iconst 0, 1) := by decide +kernel
theorem dX7_town_136 : decode cX7_town 136 = .ok (.istore_n 1, 1) := by decide +kernel
theorem dX7_town_137 : decode cX7_town 137 = .ok (.iload_n 1, 1) := by decide +kernel
theorem dX7_town_138 : decode cX7_town 138 = .ok (.aload_n 0, 1) := by decide +kernel
theorem dX7_town_139 : decode cX7_town 139 = .ok (.getfield 108, 3) := by decide +kernel
theorem dX7_town_142 : decode cX7_town 142 = .ok (.if_icmp .ge 39, 3) := by decide +kernel
theorem dX7_town_145 : decode cX7_town 145 = .ok (.aload_n 0, 1) := by decide +kernel
theorem dX7_town_146 : decode cX7_town 146 = .ok (.getfield 22, 3) := by decide +kernel
theorem dX7_town_149 : decode cX7_town 149 = .ok (.iload_n 1, 1) := by decide +kernel
theorem dX7_town_150 : decode cX7_town 150 = .ok (.aload_n 0, 1) := by decide +kernel
theorem dX7_town_151 : decode cX7_town 151 = .ok (.getfield 40, 3) := by decide +kernel
theorem dX7_town_154 : decode cX7_town 154 = .ok (.iconst 2, 1) := by decide +kernel
theorem dX7_town_155 : decode cX7_town 155 = .ok (.iload_n 1, 1) := by decide +kernel
theorem dX7_town_156 : decode cX7_town 156 = .ok (.imul, 1) := by decide +kernel
theorem dX7_town_157 : decode cX7_town 157 = .ok (.iaload, 1) := by decide +kernel
theorem dX7_town_158 : decode cX7_town 158 = .ok (.iastore, 1) := by decide +kernel
theorem dX7_town_159 : decode cX7_town 159 = .ok (.aload_n 0, 1) := by decide +kernel
theorem dX7_town_160 : decode cX7_town 160 = .ok (.getfield 25, 3) := by decide +kernel
theorem dX7_town_163 : decode cX7_town 163 = .ok (.iload_n 1, 1) := by decide +kernel
theorem dX7_town_164 : decode cX7_town 164 = .ok (.aload_n 0, 1) := by decide +kernel
theorem dX7_town_165 : decode cX7_town 165 = .ok (.getfield 40, 3) := by decide +kernel
theorem dX7_town_168 : decode cX7_town 168 = .ok (.iconst 2, 1) := by decide +kernel
theorem dX7_town_169 : decode cX7_town 169 = .ok (.iload_n 1, 1) := by decide +kernel
theorem dX7_town_170 : decode cX7_town 170 = .ok (.imul, 1) := by decide +kernel
theorem dX7_town_171 : decode cX7_town 171 = .ok (.iconst 1, 1) := by decide +kernel
theorem dX7_town_172 : decode cX7_town 172 = .ok (.iadd, 1) := by decide +kernel
theorem dX7_town_173 : decode cX7_town 173 = .ok (.iaload, 1) := by decide +kernel
theorem dX7_town_174 : decode cX7_town 174 = .ok (.iastore, 1) := by decide +kernel
theorem dX7_town_175 : decode cX7_town 175 = .ok (.iinc 1 1, 3) := by decide +kernel
theorem dX7_town_178 : decode cX7_town 178 = .ok (.goto (-41), 3) := by decide +kernel
theorem dX7_town_181 : decode cX7_town 181 = .ok (.iconst 0, 1) := by decide +kernel
theorem dX7_town_182 : decode cX7_town 182 = .ok (.istore_n 1, 1) := by decide +kernel
theorem dX7_town_183 : decode cX7_town 183 = .ok (.iload_n 1, 1) := by decide +kernel
theorem dX7_town_184 : decode cX7_town 184 = .ok (.aload_n 0, 1) := by decide +kernel
theorem dX7_town_185 : decode cX7_town 185 = .ok (.getfield 111, 3) := by decide +kernel
theorem dX7_town_188 : decode cX7_town 188 = .ok (.if_icmp .ge 39, 3) := by decide +kernel
theorem dX7_town_191 : decode cX7_town 191 = .ok (.aload_n 0, 1) := by decide +kernel
theorem dX7_town_192 : decode cX7_town 192 = .ok (.getfield 28, 3) := by decide +kernel
theorem dX7_town_195 : decode cX7_town 195 = .ok (.iload_n 1, 1) := by decide +kernel
theorem dX7_town_196 : decode cX7_town 196 = .ok (.aload_n 0, 1) := by decide +kernel
theorem dX7_town_197 : decode cX7_town 197 = .ok (.getfield 43, 3) := by decide +kernel
theorem dX7_town_200 : decode cX7_town 200 = .ok (.iconst 2, 1) := by decide +kernel
theorem dX7_town_201 : decode cX7_town 201 = .ok (.iload_n 1, 1) := by decide +kernel
theorem dX7_town_202 : decode cX7_town 202 = .ok (.imul, 1) := by decide +kernel
theorem dX7_town_203 : decode cX7_town 203 = .ok (.iaload, 1) := by decide +kernel
theorem dX7_town_204 : decode cX7_town 204 = .ok (.iastore, 1) := by decide +kernel
theorem dX7_town_205 : decode cX7_town 205 = .ok (.aload_n 0, 1) := by decide +kernel
theorem dX7_town_206 : decode cX7_town 206 = .ok (.getfield 31, 3) := by decide +kernel
theorem dX7_town_209 : decode cX7_town 209 = .ok (.iload_n 1, 1) := by decide +kernel
theorem dX7_town_210 : decode cX7_town 210 = .ok (.aload_n 0, 1) := by decide +kernel
theorem dX7_town_211 : decode cX7_town 211 = .ok (.getfield 43, 3) := by decide +kernel
theorem dX7_town_214 : decode cX7_town 214 = .ok (.iconst 2, 1) := by decide +kernel
theorem dX7_town_215 : decode cX7_town 215 = .ok (.iload_n 1, 1) := by decide +kernel
theorem dX7_town_216 : decode cX7_town 216 = .ok (.imul, 1) := by decide +kernel
theorem dX7_town_217 : decode cX7_town 217 = .ok (.iconst 1, 1) := by decide +kernel
theorem dX7_town_218 : decode cX7_town 218 = .ok (.iadd, 1) := by decide +kernel
theorem dX7_town_219 : decode cX7_town 219 = .ok (.iaload, 1) := by decide +kernel
theorem dX7_town_220 : decode cX7_town 220 = .ok (.iastore, 1) := by decide +kernel
theorem dX7_town_221 : decode cX7_town 221 = .ok (.iinc 1 1, 3) := by decide +kernel
theorem dX7_town_224 : decode cX7_town 224 = .ok (.goto (-41), 3) := by decide +kernel
theorem dX7_town_227 : decode cX7_town 227 = .ok (.aload_n 0, 1) := by decide +kernel
theorem dX7_town_228 : decode cX7_town 228 = .ok (.iconst 0, 1) := by decide +kernel
theorem dX7_town_229 : decode cX7_town 229 = .ok (.putfield 114, 3) := by decide +kernel
theorem dX7_town_232 : decode cX7_town 232 = .ok (.aload_n 0, 1) := by decide +kernel
theorem dX7_town_233 : decode cX7_town 233 = .ok (.getfield 61, 3) := by decide +kernel
theorem dX7_town_236 : decode cX7_town 236 = .ok (.iconst 0, 1) := by decide +kernel
theorem dX7_town_237 : decode cX7_town 237 = .ok (.iconst 0, 1) := by decide +kernel
theorem dX7_town_238 : decode cX7_town 238 = .ok (.bastore, 1) := by decide +kernel
theorem dX7_town_239 : decode cX7_town 239 = .ok (.aload_n 0, 1) := by decide +kernel
theorem dX7_town_240 : decode cX7_town 240 = .ok (.getfield 61, 3) := by decide +kernel
theorem dX7_town_243 : decode cX7_town 243 = .ok (.iconst 1, 1) := by decide +kernel
theorem dX7_town_244 : decode cX7_town 244 = .ok (.iconst 0, 1) := by decide +kernel
theorem dX7_town_245 : decode cX7_town 245 = .ok (.bastore, 1) := by decide +kernel
theorem dX7_town_246 : decode cX7_town 246 = .ok (.bipush 100, 2) := by decide +kernel
theorem dX7_town_248 : decode cX7_town 248 = .ok (.aload_n 0, 1) := by decide +kernel
theorem dX7_town_249 : decode cX7_town 249 = .ok (.getfield 105, 3) := by decide +kernel
theorem dX7_town_252 : decode cX7_town 252 = .ok (.imul, 1) := by decide +kernel
theorem dX7_town_253 : decode cX7_town 253 = .ok (.bipush 10, 2) := by decide +kernel
theorem dX7_town_255 : decode cX7_town 255 = .ok (.aload_n 0, 1) := by decide +kernel
theorem dX7_town_256 : decode cX7_town 256 = .ok (.getfield 108, 3) := by decide +kernel
theorem dX7_town_259 : decode cX7_town 259 = .ok (.imul, 1) := by decide +kernel
theorem dX7_town_260 : decode cX7_town 260 = .ok (.iadd, 1) := by decide +kernel
theorem dX7_town_261 : decode cX7_town 261 = .ok (.aload_n 0, 1) := by decide +kernel
theorem dX7_town_262 : decode cX7_town 262 = .ok (.getfield 111, 3) := by decide +kernel
theorem dX7_town_265 : decode cX7_town 265 = .ok (.iadd, 1) := by decide +kernel
theorem dX7_town_266 : decode cX7_town 266 = .ok (.ireturn, 1) := by decide +kernel
theorem dX7_isPin_0 : decode cX7_isPin 0 = .ok (.iload_n 1, 1) := by decide +kernel
theorem dX7_isPin_1 : decode cX7_isPin 1 = .ok (.i2l, 1) := by decide +kernel
theorem dX7_isPin_2 : decode cX7_isPin 2 = .ok (.lconst 0, 1) := by decide +kernel
theorem dX7_isPin_3 : decode cX7_isPin 3 = .ok (.aload_n 0, 1) := by decide +kernel
theorem dX7_isPin_4 : decode cX7_isPin 4 = .ok (.getfield 105, 3) := by decide +kernel
theorem dX7_isPin_7 : decode cX7_isPin 7 = .ok (.iconst 1, 1) := by decide +kernel
theorem dX7_isPin_8 : decode cX7_isPin 8 = .ok (.isub, 1) := by decide +kernel
theorem dX7_isPin_9 : decode cX7_isPin 9 = .ok (.i2l, 1) := by decide +kernel
theorem dX7_isPin_10 : decode cX7_isPin 10 = .ok (.invokestatic 70, 3) := by decide +kernel
theorem dX7_isPin_13 : decode cX7_isPin 13 = .ok (.ireturn, 1) := by decide +kernel
theorem dX7_isThing_0 : decode cX7_isThing 0 = .ok (.iload_n 0, 1) := by decide +kernel
theorem dX7_isThing_1 : decode cX7_isThing 1 = .ok (.i2l, 1) := by decide +kernel
theorem dX7_isThing_2 : decode cX7_isThing 2 = .ok (.lconst 0, 1) := by decide +kernel
theorem dX7_isThing_3 : decode cX7_isThing 3 = .ok (.ldc2_w 117, 3) := by decide +kernel
theorem dX7_isThing_6 : decode cX7_isThing 6 = .ok (.invokestatic 70, 3) := by decide +kernel
theorem dX7_isThing_9 : decode cX7_isThing 9 = .ok (.ireturn, 1) := by decide +kernel
theorem dX7_all_0 : decode cX7_all 0 = .ok (.iconst 1, 1) := by decide +kernel
theorem dX7_all_1 : decode cX7_all 1 = .ok (.aload_n 0, 1) := by decide +kernel
theorem dX7_all_2 : decode cX7_all 2 = .ok (.getfield 105, 3) := by decide +kernel
theorem dX7_all_5 : decode cX7_all 5 = .ok (.ishl, 1) := by decide +kernel
theorem dX7_all_6 : decode cX7_all 6 = .ok (.iconst 1, 1) := by decide +kernel
theorem dX7_all_7 : decode cX7_all 7 = .ok (.isub, 1) := by decide +kernel
theorem dX7_all_8 : decode cX7_all 8 = .ok (.ireturn, 1) := by decide +kernel
theorem dX7_withBy_0 : decode cX7_withBy 0 = .ok (.iconst 1, 1) := by decide +kernel
theorem dX7_withBy_1 : decode cX7_withBy 1 = .ok (.iload_n 1, 1) := by decide +kernel
theorem dX7_withBy_2 : decode cX7_withBy 2 = .ok (.ishl, 1) := by decide +kernel
theorem dX7_withBy_3 : decode cX7_withBy 3 = .ok (.istore_n 3, 1) := by decide +kernel
theorem dX7_withBy_4 : decode cX7_withBy 4 = .ok (.iconst 0, 1) := by decide +kernel
theorem dX7_withBy_5 : decode cX7_withBy 5 = .ok (.istore 4, 2) := by decide +kernel
theorem dX7_withBy_7 : decode cX7_withBy 7 = .ok (.iload 4, 2) := by decide +kernel
theorem dX7_withBy_9 : decode cX7_withBy 9 = .ok (.bipush 6, 2) := by decide +kernel
theorem dX7_withBy_11 : decode cX7_withBy 11 = .ok (.if_icmp .ge 102, 3) := by decide +kernel
theorem dX7_withBy_14 : decode cX7_withBy 14 = .ok (.iconst 0, 1) := by decide +kernel
theorem dX7_withBy_15 : decode cX7_withBy 15 = .ok (.istore 5, 2) := by decide +kernel
theorem dX7_withBy_17 : decode cX7_withBy 17 = .ok (.iload 5, 2) := by decide +kernel
theorem dX7_withBy_19 : decode cX7_withBy 19 = .ok (.aload_n 0, 1) := by decide +kernel
theorem dX7_withBy_20 : decode cX7_withBy 20 = .ok (.getfield 105, 3) := by decide +kernel
theorem dX7_withBy_23 : decode cX7_withBy 23 = .ok (.if_icmp .ge 84, 3) := by decide +kernel
theorem dX7_withBy_26 : decode cX7_withBy 26 = .ok (.iload_n 2, 1) := by decide +kernel
theorem dX7_withBy_27 : decode cX7_withBy 27 = .ok (.iload 5, 2) := by decide +kernel
theorem dX7_withBy_29 : decode cX7_withBy 29 = .ok (.invokestatic 119, 3) := by decide +kernel
theorem dX7_withBy_32 : decode cX7_withBy 32 = .ok (.ifCond .ne 35, 3) := by decide +kernel
theorem dX7_withBy_35 : decode cX7_withBy 35 = .ok (.iload_n 3, 1) := by decide +kernel
theorem dX7_withBy_36 : decode cX7_withBy 36 = .ok (.aload_n 0, 1) := by decide +kernel
theorem dX7_withBy_37 : decode cX7_withBy 37 = .ok (.getfield 7, 3) := by decide +kernel
theorem dX7_withBy_40 : decode cX7_withBy 40 = .ok (.iload 5, 2) := by decide +kernel
theorem dX7_withBy_42 : decode cX7_withBy 42 = .ok (.iaload, 1) := by decide +kernel
theorem dX7_withBy_43 : decode cX7_withBy 43 = .ok (.invokestatic 119, 3) := by decide +kernel
theorem dX7_withBy_46 : decode cX7_withBy 46 = .ok (.ifCond .ne 17, 3) := by decide +kernel
theorem dX7_withBy_49 : decode cX7_withBy 49 = .ok (.iload_n 3, 1) := by decide +kernel
theorem dX7_withBy_50 : decode cX7_withBy 50 = .ok (.aload_n 0, 1) := by decide +kernel
theorem dX7_withBy_51 : decode cX7_withBy 51 = .ok (.getfield 13, 3) := by decide +kernel
theorem dX7_withBy_54 : decode cX7_withBy 54 = .ok (.iload 5, 2) := by decide +kernel
theorem dX7_withBy_56 : decode cX7_withBy 56 = .ok (.iaload, 1) := by decide +kernel
theorem dX7_withBy_57 : decode cX7_withBy 57 = .ok (.invokestatic 119, 3) := by decide +kernel
theorem dX7_withBy_60 : decode cX7_withBy 60 = .ok (.ifCond .eq 7, 3) := by decide +kernel
theorem dX7_withBy_63 : decode cX7_withBy 63 = .ok (.iconst 1, 1) := by decide +kernel
theorem dX7_withBy_64 : decode cX7_withBy 64 = .ok (.goto 4, 3) := by decide +kernel
theorem dX7_withBy_67 : decode cX7_withBy 67 = .ok (.iconst 0, 1) := by decide +kernel
theorem dX7_withBy_68 : decode cX7_withBy 68 = .ok (.istore 6, 2) := by decide +kernel
theorem dX7_withBy_70 : decode cX7_withBy 70 = .ok (.iload_n 3, 1) := by decide +kernel
theorem dX7_withBy_71 : decode cX7_withBy 71 = .ok (.iload 6, 2) := by decide +kernel
theorem dX7_withBy_73 : decode cX7_withBy 73 = .ok (.ifCond .eq 25, 3) := by decide +kernel
theorem dX7_withBy_76 : decode cX7_withBy 76 = .ok (.iconst 1, 1) := by decide +kernel
theorem dX7_withBy_77 : decode cX7_withBy 77 = .ok (.aload_n 0, 1) := by decide +kernel
theorem dX7_withBy_78 : decode cX7_withBy 78 = .ok (.getfield 7, 3) := by decide +kernel
theorem dX7_withBy_81 : decode cX7_withBy 81 = .ok (.iload 5, 2) := by decide +kernel
theorem dX7_withBy_83 : decode cX7_withBy 83 = .ok (.iaload, 1) := by decide +kernel
theorem dX7_withBy_84 : decode cX7_withBy 84 = .ok (.ishl, 1) := by decide +kernel
theorem dX7_withBy_85 : decode cX7_withBy 85 = .ok (.iconst 1, 1) := by decide +kernel
theorem dX7_withBy_86 : decode cX7_withBy 86 = .ok (.aload_n 0, 1) := by decide +kernel
theorem dX7_withBy_87 : decode cX7_withBy 87 = .ok (.getfield 13, 3) := by decide +kernel
theorem dX7_withBy_90 : decode cX7_withBy 90 = .ok (.iload 5, 2) := by decide +kernel
theorem dX7_withBy_92 : decode cX7_withBy 92 = .ok (.iaload, 1) := by decide +kernel
theorem dX7_withBy_93 : decode cX7_withBy 93 = .ok (.ishl, 1) := by decide +kernel
theorem dX7_withBy_94 : decode cX7_withBy 94 = .ok (.ior, 1) := by decide +kernel
theorem dX7_withBy_95 : decode cX7_withBy 95 = .ok (.goto 4, 3) := by decide +kernel
theorem dX7_withBy_98 : decode cX7_withBy 98 = .ok (.iconst 0, 1) := by decide +kernel
theorem dX7_withBy_99 : decode cX7_withBy 99 = .ok (.ior, 1) := by decide +kernel
theorem dX7_withBy_100 : decode cX7_withBy 100 = .ok (.istore_n 3, 1) := by decide +kernel
theorem dX7_withBy_101 : decode cX7_withBy 101 = .ok (.iinc 5 1, 3) := by decide +kernel
theorem dX7_withBy_104 : decode cX7_withBy 104 = .ok (.goto (-87), 3) := by decide +kernel
theorem dX7_withBy_107 : decode cX7_withBy 107 = .ok (.iinc 4 1, 3) := by decide +kernel
theorem dX7_withBy_110 : decode cX7_withBy 110 = .ok (.goto (-103), 3) := by decide +kernel
theorem dX7_withBy_113 : decode cX7_withBy 113 = .ok (.iload_n 3, 1) := by decide +kernel
theorem dX7_withBy_114 : decode cX7_withBy 114 = .ok (.ireturn, 1) := by decide +kernel
theorem dX7_isTogether_0 : decode cX7_isTogether 0 = .ok (.aload_n 0, 1) := by decide +kernel
theorem dX7_isTogether_1 : decode cX7_isTogether 1 = .ok (.iload_n 1, 1) := by decide +kernel
theorem dX7_isTogether_2 : decode cX7_isTogether 2 = .ok (.iload_n 3, 1) := by decide +kernel
theorem dX7_isTogether_3 : decode cX7_isTogether 3 = .ok (.invokevirtual 123, 3) := by decide +kernel
theorem dX7_isTogether_6 : decode cX7_isTogether 6 = .ok (.iload_n 2, 1) := by decide +kernel
theorem dX7_isTogether_7 : decode cX7_isTogether 7 = .ok (.invokestatic 119, 3) := by decide +kernel
theorem dX7_isTogether_10 : decode cX7_isTogether 10 = .ok (.ireturn, 1) := by decide +kernel
theorem dX7_pairsBy_0 : decode cX7_pairsBy 0 = .ok (.iconst 0, 1) := by decide +kernel
theorem dX7_pairsBy_1 : decode cX7_pairsBy 1 = .ok (.istore_n 2, 1) := by decide +kernel
theorem dX7_pairsBy_2 : decode cX7_pairsBy 2 = .ok (.iconst 0, 1) := by decide +kernel
theorem dX7_pairsBy_3 : decode cX7_pairsBy 3 = .ok (.istore_n 3, 1) := by decide +kernel
theorem dX7_pairsBy_4 : decode cX7_pairsBy 4 = .ok (.iload_n 3, 1) := by decide +kernel
theorem dX7_pairsBy_5 : decode cX7_pairsBy 5 = .ok (.bipush 6, 2) := by decide +kernel
theorem dX7_pairsBy_7 : decode cX7_pairsBy 7 = .ok (.if_icmp .ge 46, 3) := by decide +kernel
theorem dX7_pairsBy_10 : decode cX7_pairsBy 10 = .ok (.iload_n 3, 1) := by decide +kernel
theorem dX7_pairsBy_11 : decode cX7_pairsBy 11 = .ok (.iconst 1, 1) := by decide +kernel
theorem dX7_pairsBy_12 : decode cX7_pairsBy 12 = .ok (.iadd, 1) := by decide +kernel
theorem dX7_pairsBy_13 : decode cX7_pairsBy 13 = .ok (.istore 4, 2) := by decide +kernel
theorem dX7_pairsBy_15 : decode cX7_pairsBy 15 = .ok (.iload 4, 2) := by decide +kernel
theorem dX7_pairsBy_17 : decode cX7_pairsBy 17 = .ok (.bipush 6, 2) := by decide +kernel
theorem dX7_pairsBy_19 : decode cX7_pairsBy 19 = .ok (.if_icmp .ge 28, 3) := by decide +kernel
theorem dX7_pairsBy_22 : decode cX7_pairsBy 22 = .ok (.iload_n 2, 1) := by decide +kernel
theorem dX7_pairsBy_23 : decode cX7_pairsBy 23 = .ok (.aload_n 0, 1) := by decide +kernel
theorem dX7_pairsBy_24 : decode cX7_pairsBy 24 = .ok (.iload_n 3, 1) := by decide +kernel
theorem dX7_pairsBy_25 : decode cX7_pairsBy 25 = .ok (.iload 4, 2) := by decide +kernel
theorem dX7_pairsBy_27 : decode cX7_pairsBy 27 = .ok (.iload_n 1, 1) := by decide +kernel
theorem dX7_pairsBy_28 : decode cX7_pairsBy 28 = .ok (.invokevirtual 126, 3) := by decide +kernel
theorem dX7_pairsBy_31 : decode cX7_pairsBy 31 = .ok (.ifCond .eq 7, 3) := by decide +kernel
theorem dX7_pairsBy_34 : decode cX7_pairsBy 34 = .ok (.iconst 1, 1) := by decide +kernel
theorem dX7_pairsBy_35 : decode cX7_pairsBy 35 = .ok (.goto 4, 3) := by decide +kernel
theorem dX7_pairsBy_38 : decode cX7_pairsBy 38 = .ok (.iconst 0, 1) := by decide +kernel
theorem dX7_pairsBy_39 : decode cX7_pairsBy 39 = .ok (.iadd, 1) := by decide +kernel
theorem dX7_pairsBy_40 : decode cX7_pairsBy 40 = .ok (.istore_n 2, 1) := by decide +kernel
theorem dX7_pairsBy_41 : decode cX7_pairsBy 41 = .ok (.iinc 4 1, 3) := by decide +kernel
theorem dX7_pairsBy_44 : decode cX7_pairsBy 44 = .ok (.goto (-29), 3) := by decide +kernel
theorem dX7_pairsBy_47 : decode cX7_pairsBy 47 = .ok (.iinc 3 1, 3) := by decide +kernel
theorem dX7_pairsBy_50 : decode cX7_pairsBy 50 = .ok (.goto (-46), 3) := by decide +kernel
theorem dX7_pairsBy_53 : decode cX7_pairsBy 53 = .ok (.iload_n 2, 1) := by decide +kernel
theorem dX7_pairsBy_54 : decode cX7_pairsBy 54 = .ok (.ireturn, 1) := by decide +kernel
theorem dX7_doableBy_0 : decode cX7_doableBy 0 = .ok (.iconst 0, 1) := by decide +kernel
theorem dX7_doableBy_1 : decode cX7_doableBy 1 = .ok (.istore_n 2, 1) := by decide +kernel
theorem dX7_doableBy_2 : decode cX7_doableBy 2 = .ok (.iconst 0, 1) := by decide +kernel
theorem dX7_doableBy_3 : decode cX7_doableBy 3 = .ok (.istore_n 3, 1) := by decide +kernel
theorem dX7_doableBy_4 : decode cX7_doableBy 4 = .ok (.iload_n 3, 1) := by decide +kernel
theorem dX7_doableBy_5 : decode cX7_doableBy 5 = .ok (.aload_n 0, 1) := by decide +kernel
theorem dX7_doableBy_6 : decode cX7_doableBy 6 = .ok (.getfield 111, 3) := by decide +kernel
theorem dX7_doableBy_9 : decode cX7_doableBy 9 = .ok (.if_icmp .ge 39, 3) := by decide +kernel
theorem dX7_doableBy_12 : decode cX7_doableBy 12 = .ok (.iload_n 2, 1) := by decide +kernel
theorem dX7_doableBy_13 : decode cX7_doableBy 13 = .ok (.aload_n 0, 1) := by decide +kernel
theorem dX7_doableBy_14 : decode cX7_doableBy 14 = .ok (.aload_n 0, 1) := by decide +kernel
theorem dX7_doableBy_15 : decode cX7_doableBy 15 = .ok (.getfield 28, 3) := by decide +kernel
theorem dX7_doableBy_18 : decode cX7_doableBy 18 = .ok (.iload_n 3, 1) := by decide +kernel
theorem dX7_doableBy_19 : decode cX7_doableBy 19 = .ok (.iaload, 1) := by decide +kernel
theorem dX7_doableBy_20 : decode cX7_doableBy 20 = .ok (.aload_n 0, 1) := by decide +kernel
theorem dX7_doableBy_21 : decode cX7_doableBy 21 = .ok (.getfield 31, 3) := by decide +kernel
theorem dX7_doableBy_24 : decode cX7_doableBy 24 = .ok (.iload_n 3, 1) := by decide +kernel
theorem dX7_doableBy_25 : decode cX7_doableBy 25 = .ok (.iaload, 1) := by decide +kernel
theorem dX7_doableBy_26 : decode cX7_doableBy 26 = .ok (.iload_n 1, 1) := by decide +kernel
theorem dX7_doableBy_27 : decode cX7_doableBy 27 = .ok (.invokevirtual 126, 3) := by decide +kernel
theorem dX7_doableBy_30 : decode cX7_doableBy 30 = .ok (.ifCond .eq 7, 3) := by decide +kernel
theorem dX7_doableBy_33 : decode cX7_doableBy 33 = .ok (.iconst 0, 1) := by decide +kernel
theorem dX7_doableBy_34 : decode cX7_doableBy 34 = .ok (.goto 6, 3) := by decide +kernel
theorem dX7_doableBy_37 : decode cX7_doableBy 37 = .ok (.iconst 1, 1) := by decide +kernel
theorem dX7_doableBy_38 : decode cX7_doableBy 38 = .ok (.iload_n 3, 1) := by decide +kernel
theorem dX7_doableBy_39 : decode cX7_doableBy 39 = .ok (.ishl, 1) := by decide +kernel
theorem dX7_doableBy_40 : decode cX7_doableBy 40 = .ok (.ior, 1) := by decide +kernel
theorem dX7_doableBy_41 : decode cX7_doableBy 41 = .ok (.istore_n 2, 1) := by decide +kernel
theorem dX7_doableBy_42 : decode cX7_doableBy 42 = .ok (.iinc 3 1, 3) := by decide +kernel
theorem dX7_doableBy_45 : decode cX7_doableBy 45 = .ok (.goto (-41), 3) := by decide +kernel
theorem dX7_doableBy_48 : decode cX7_doableBy 48 = .ok (.iload_n 2, 1) := by decide +kernel
theorem dX7_doableBy_49 : decode cX7_doableBy 49 = .ok (.ireturn, 1) := by decide +kernel
theorem dX7_unload_0 : decode cX7_unload 0 = .ok (.iconst 0, 1) := by decide +kernel
theorem dX7_unload_1 : decode cX7_unload 1 = .ok (.istore_n 1, 1) := by decide +kernel
theorem dX7_unload_2 : decode cX7_unload 2 = .ok (.iload_n 1, 1) := by decide +kernel
theorem dX7_unload_3 : decode cX7_unload 3 = .ok (.bipush 6, 2) := by decide +kernel
theorem dX7_unload_5 : decode cX7_unload 5 = .ok (.if_icmp .ge 16, 3) := by decide +kernel
theorem dX7_unload_8 : decode cX7_unload 8 = .ok (.aload_n 0, 1) := by decide +kernel
theorem dX7_unload_9 : decode cX7_unload 9 = .ok (.getfield 49, 3) := by decide +kernel
theorem dX7_unload_12 : decode cX7_unload 12 = .ok (.iload_n 1, 1) := by decide +kernel
theorem dX7_unload_13 : decode cX7_unload 13 = .ok (.iconst 0, 1) := by decide +kernel
theorem dX7_unload_14 : decode cX7_unload 14 = .ok (.iastore, 1) := by decide +kernel
theorem dX7_unload_15 : decode cX7_unload 15 = .ok (.iinc 1 1, 3) := by decide +kernel
theorem dX7_unload_18 : decode cX7_unload 18 = .ok (.goto (-16), 3) := by decide +kernel
theorem dX7_unload_21 : decode cX7_unload 21 = .ok (.return_, 1) := by decide +kernel
theorem dX7_holdsOn_0 : decode cX7_holdsOn 0 = .ok (.aload_n 0, 1) := by decide +kernel
theorem dX7_holdsOn_1 : decode cX7_holdsOn 1 = .ok (.getfield 16, 3) := by decide +kernel
theorem dX7_holdsOn_4 : decode cX7_holdsOn 4 = .ok (.iload_n 2, 1) := by decide +kernel
theorem dX7_holdsOn_5 : decode cX7_holdsOn 5 = .ok (.iaload, 1) := by decide +kernel
theorem dX7_holdsOn_6 : decode cX7_holdsOn 6 = .ok (.aload_n 0, 1) := by decide +kernel
theorem dX7_holdsOn_7 : decode cX7_holdsOn 7 = .ok (.getfield 34, 3) := by decide +kernel
theorem dX7_holdsOn_10 : decode cX7_holdsOn 10 = .ok (.bipush 9, 2) := by decide +kernel
theorem dX7_holdsOn_12 : decode cX7_holdsOn 12 = .ok (.iload_n 1, 1) := by decide +kernel
theorem dX7_holdsOn_13 : decode cX7_holdsOn 13 = .ok (.imul, 1) := by decide +kernel
theorem dX7_holdsOn_14 : decode cX7_holdsOn 14 = .ok (.iconst 1, 1) := by decide +kernel
theorem dX7_holdsOn_15 : decode cX7_holdsOn 15 = .ok (.iadd, 1) := by decide +kernel
theorem dX7_holdsOn_16 : decode cX7_holdsOn 16 = .ok (.iload_n 2, 1) := by decide +kernel
theorem dX7_holdsOn_17 : decode cX7_holdsOn 17 = .ok (.iadd, 1) := by decide +kernel
theorem dX7_holdsOn_18 : decode cX7_holdsOn 18 = .ok (.iaload, 1) := by decide +kernel
theorem dX7_holdsOn_19 : decode cX7_holdsOn 19 = .ok (.isub, 1) := by decide +kernel
theorem dX7_holdsOn_20 : decode cX7_holdsOn 20 = .ok (.istore_n 3, 1) := by decide +kernel
theorem dX7_holdsOn_21 : decode cX7_holdsOn 21 = .ok (.aload_n 0, 1) := by decide +kernel
theorem dX7_holdsOn_22 : decode cX7_holdsOn 22 = .ok (.getfield 19, 3) := by decide +kernel
theorem dX7_holdsOn_25 : decode cX7_holdsOn 25 = .ok (.iload_n 2, 1) := by decide +kernel
theorem dX7_holdsOn_26 : decode cX7_holdsOn 26 = .ok (.iaload, 1) := by decide +kernel
theorem dX7_holdsOn_27 : decode cX7_holdsOn 27 = .ok (.iconst 1, 1) := by decide +kernel
theorem dX7_holdsOn_28 : decode cX7_holdsOn 28 = .ok (.if_icmp .ne 14, 3) := by decide +kernel
theorem dX7_holdsOn_31 : decode cX7_holdsOn 31 = .ok (.aload_n 0, 1) := by decide +kernel
theorem dX7_holdsOn_32 : decode cX7_holdsOn 32 = .ok (.getfield 16, 3) := by decide +kernel
theorem dX7_holdsOn_35 : decode cX7_holdsOn 35 = .ok (.iload_n 2, 1) := by decide +kernel
theorem dX7_holdsOn_36 : decode cX7_holdsOn 36 = .ok (.iaload, 1) := by decide +kernel
theorem dX7_holdsOn_37 : decode cX7_holdsOn 37 = .ok (.iconst 3, 1) := by decide +kernel
theorem dX7_holdsOn_38 : decode cX7_holdsOn 38 = .ok (.iadd, 1) := by decide +kernel
theorem dX7_holdsOn_39 : decode cX7_holdsOn 39 = .ok (.goto 31, 3) := by decide +kernel
theorem dX7_holdsOn_42 : decode cX7_holdsOn 42 = .ok (.aload_n 0, 1) := by decide +kernel
theorem dX7_holdsOn_43 : decode cX7_holdsOn 43 = .ok (.getfield 19, 3) := by decide +kernel
theorem dX7_holdsOn_46 : decode cX7_holdsOn 46 = .ok (.iload_n 2, 1) := by decide +kernel
theorem dX7_holdsOn_47 : decode cX7_holdsOn 47 = .ok (.iaload, 1) := by decide +kernel
theorem dX7_holdsOn_48 : decode cX7_holdsOn 48 = .ok (.iconst 2, 1) := by decide +kernel
theorem dX7_holdsOn_49 : decode cX7_holdsOn 49 = .ok (.if_icmp .eq 12, 3) := by decide +kernel
theorem dX7_holdsOn_52 : decode cX7_holdsOn 52 = .ok (.aload_n 0, 1) := by decide +kernel
theorem dX7_holdsOn_53 : decode cX7_holdsOn 53 = .ok (.getfield 16, 3) := by decide +kernel
theorem dX7_holdsOn_56 : decode cX7_holdsOn 56 = .ok (.iload_n 2, 1) := by decide +kernel
theorem dX7_holdsOn_57 : decode cX7_holdsOn 57 = .ok (.iaload, 1) := by decide +kernel
theorem dX7_holdsOn_58 : decode cX7_holdsOn 58 = .ok (.goto 12, 3) := by decide +kernel
theorem dX7_holdsOn_61 : decode cX7_holdsOn 61 = .ok (.iload_n 3, 1) := by decide +kernel
theorem dX7_holdsOn_62 : decode cX7_holdsOn 62 = .ok (.ifCond .ge 7, 3) := by decide +kernel
theorem dX7_holdsOn_65 : decode cX7_holdsOn 65 = .ok (.iconst 0, 1) := by decide +kernel
theorem dX7_holdsOn_66 : decode cX7_holdsOn 66 = .ok (.goto 4, 3) := by decide +kernel
theorem dX7_holdsOn_69 : decode cX7_holdsOn 69 = .ok (.iload_n 3, 1) := by decide +kernel
theorem dX7_holdsOn_70 : decode cX7_holdsOn 70 = .ok (.ireturn, 1) := by decide +kernel
theorem dX7_onBoth_0 : decode cX7_onBoth 0 = .ok (.aload_n 0, 1) := by decide +kernel
theorem dX7_onBoth_1 : decode cX7_onBoth 1 = .ok (.getfield 49, 3) := by decide +kernel
theorem dX7_onBoth_4 : decode cX7_onBoth 4 = .ok (.aload_n 0, 1) := by decide +kernel
theorem dX7_onBoth_5 : decode cX7_onBoth 5 = .ok (.getfield 7, 3) := by decide +kernel
theorem dX7_onBoth_8 : decode cX7_onBoth 8 = .ok (.iload_n 1, 1) := by decide +kernel
theorem dX7_onBoth_9 : decode cX7_onBoth 9 = .ok (.iaload, 1) := by decide +kernel
theorem dX7_onBoth_10 : decode cX7_onBoth 10 = .ok (.iaload, 1) := by decide +kernel
theorem dX7_onBoth_11 : decode cX7_onBoth 11 = .ok (.aload_n 0, 1) := by decide +kernel
theorem dX7_onBoth_12 : decode cX7_onBoth 12 = .ok (.getfield 49, 3) := by decide +kernel
theorem dX7_onBoth_15 : decode cX7_onBoth 15 = .ok (.aload_n 0, 1) := by decide +kernel
theorem dX7_onBoth_16 : decode cX7_onBoth 16 = .ok (.getfield 13, 3) := by decide +kernel
theorem dX7_onBoth_19 : decode cX7_onBoth 19 = .ok (.iload_n 1, 1) := by decide +kernel
theorem dX7_onBoth_20 : decode cX7_onBoth 20 = .ok (.iaload, 1) := by decide +kernel
theorem dX7_onBoth_21 : decode cX7_onBoth 21 = .ok (.iaload, 1) := by decide +kernel
theorem dX7_onBoth_22 : decode cX7_onBoth 22 = .ok (.iadd, 1) := by decide +kernel
theorem dX7_onBoth_23 : decode cX7_onBoth 23 = .ok (.ireturn, 1) := by decide +kernel
theorem dX7_ping_0 : decode cX7_ping 0 = .ok (.iconst 0, 1) := by decide +kernel
theorem dX7_ping_1 : decode cX7_ping 1 = .ok (.istore_n 2, 1) := by decide +kernel
theorem dX7_ping_2 : decode cX7_ping 2 = .ok (.iconst 1, 1) := by decide +kernel
theorem dX7_ping_3 : decode cX7_ping 3 = .ok (.istore_n 3, 1) := by decide +kernel
theorem dX7_ping_4 : decode cX7_ping 4 = .ok (.iload_n 3, 1) := by decide +kernel
theorem dX7_ping_5 : decode cX7_ping 5 = .ok (.ifCond .eq 166, 3) := by decide +kernel
theorem dX7_ping_8 : decode cX7_ping 8 = .ok (.iconst 0, 1) := by decide +kernel
theorem dX7_ping_9 : decode cX7_ping 9 = .ok (.istore_n 3, 1) := by decide +kernel
theorem dX7_ping_10 : decode cX7_ping 10 = .ok (.iconst 0, 1) := by decide +kernel
theorem dX7_ping_11 : decode cX7_ping 11 = .ok (.istore 4, 2) := by decide +kernel
theorem dX7_ping_13 : decode cX7_ping 13 = .ok (.iload 4, 2) := by decide +kernel
theorem dX7_ping_15 : decode cX7_ping 15 = .ok (.aload_n 0, 1) := by decide +kernel
theorem dX7_ping_16 : decode cX7_ping 16 = .ok (.getfield 105, 3) := by decide +kernel
theorem dX7_ping_19 : decode cX7_ping 19 = .ok (.if_icmp .ge 53, 3) := by decide +kernel
theorem dX7_ping_22 : decode cX7_ping 22 = .ok (.iload_n 3, 1) := by decide +kernel
theorem dX7_ping_23 : decode cX7_ping 23 = .ok (.aload_n 0, 1) := by decide +kernel
theorem dX7_ping_24 : decode cX7_ping 24 = .ok (.getfield 34, 3) := by decide +kernel
theorem dX7_ping_27 : decode cX7_ping 27 = .ok (.bipush 9, 2) := by decide +kernel
theorem dX7_ping_29 : decode cX7_ping 29 = .ok (.iload_n 1, 1) := by decide +kernel
theorem dX7_ping_30 : decode cX7_ping 30 = .ok (.imul, 1) := by decide +kernel
theorem dX7_ping_31 : decode cX7_ping 31 = .ok (.iaload, 1) := by decide +kernel
theorem dX7_ping_32 : decode cX7_ping 32 = .ok (.iload 4, 2) := by decide +kernel
theorem dX7_ping_34 : decode cX7_ping 34 = .ok (.invokestatic 119, 3) := by decide +kernel
theorem dX7_ping_37 : decode cX7_ping 37 = .ok (.ifCond .ne 26, 3) := by decide +kernel
theorem dX7_ping_40 : decode cX7_ping 40 = .ok (.aload_n 0, 1) := by decide +kernel
theorem dX7_ping_41 : decode cX7_ping 41 = .ok (.iload 4, 2) := by decide +kernel
theorem dX7_ping_43 : decode cX7_ping 43 = .ok (.invokevirtual 130, 3) := by decide +kernel
theorem dX7_ping_46 : decode cX7_ping 46 = .ok (.aload_n 0, 1) := by decide +kernel
theorem dX7_ping_47 : decode cX7_ping 47 = .ok (.iload_n 1, 1) := by decide +kernel
theorem dX7_ping_48 : decode cX7_ping 48 = .ok (.iload 4, 2) := by decide +kernel
theorem dX7_ping_50 : decode cX7_ping 50 = .ok (.invokevirtual 134, 3) := by decide +kernel
theorem dX7_ping_53 : decode cX7_ping 53 = .ok (.if_icmp .le 10, 3) := by decide +kernel
theorem dX7_ping_56 : decode cX7_ping 56 = .ok (.iconst 1, 1) := by decide +kernel
theorem dX7_ping_57 : decode cX7_ping 57 = .ok (.iload 4, 2) := by decide +kernel
theorem dX7_ping_59 : decode cX7_ping 59 = .ok (.ishl, 1) := by decide +kernel
theorem dX7_ping_60 : decode cX7_ping 60 = .ok (.goto 4, 3) := by decide +kernel
theorem dX7_ping_63 : decode cX7_ping 63 = .ok (.iconst 0, 1) := by decide +kernel
theorem dX7_ping_64 : decode cX7_ping 64 = .ok (.ior, 1) := by decide +kernel
theorem dX7_ping_65 : decode cX7_ping 65 = .ok (.istore_n 3, 1) := by decide +kernel
theorem dX7_ping_66 : decode cX7_ping 66 = .ok (.iinc 4 1, 3) := by decide +kernel
theorem dX7_ping_69 : decode cX7_ping 69 = .ok (.goto (-56), 3) := by decide +kernel
theorem dX7_ping_72 : decode cX7_ping 72 = .ok (.iconst 0, 1) := by decide +kernel
theorem dX7_ping_73 : decode cX7_ping 73 = .ok (.istore 4, 2) := by decide +kernel
theorem dX7_ping_75 : decode cX7_ping 75 = .ok (.iload 4, 2) := by decide +kernel
theorem dX7_ping_77 : decode cX7_ping 77 = .ok (.aload_n 0, 1) := by decide +kernel
theorem dX7_ping_78 : decode cX7_ping 78 = .ok (.getfield 105, 3) := by decide +kernel
theorem dX7_ping_81 : decode cX7_ping 81 = .ok (.if_icmp .ge 67, 3) := by decide +kernel
theorem dX7_ping_84 : decode cX7_ping 84 = .ok (.aload_n 0, 1) := by decide +kernel
theorem dX7_ping_85 : decode cX7_ping 85 = .ok (.getfield 49, 3) := by decide +kernel
theorem dX7_ping_88 : decode cX7_ping 88 = .ok (.aload_n 0, 1) := by decide +kernel
theorem dX7_ping_89 : decode cX7_ping 89 = .ok (.getfield 7, 3) := by decide +kernel
theorem dX7_ping_92 : decode cX7_ping 92 = .ok (.iload 4, 2) := by decide +kernel
theorem dX7_ping_94 : decode cX7_ping 94 = .ok (.iaload, 1) := by decide +kernel
theorem dX7_ping_95 : decode cX7_ping 95 = .ok (.dup2, 1) := by decide +kernel
theorem dX7_ping_96 : decode cX7_ping 96 = .ok (.iaload, 1) := by decide +kernel
theorem dX7_ping_97 : decode cX7_ping 97 = .ok (.iload_n 3, 1) := by decide +kernel
theorem dX7_ping_98 : decode cX7_ping 98 = .ok (.iload 4, 2) := by decide +kernel
theorem dX7_ping_100 : decode cX7_ping 100 = .ok (.invokestatic 119, 3) := by decide +kernel
theorem dX7_ping_103 : decode cX7_ping 103 = .ok (.ifCond .eq 7, 3) := by decide +kernel
theorem dX7_ping_106 : decode cX7_ping 106 = .ok (.iconst 1, 1) := by decide +kernel
theorem dX7_ping_107 : decode cX7_ping 107 = .ok (.goto 4, 3) := by decide +kernel
theorem dX7_ping_110 : decode cX7_ping 110 = .ok (.iconst 0, 1) := by decide +kernel
theorem dX7_ping_111 : decode cX7_ping 111 = .ok (.iadd, 1) := by decide +kernel
theorem dX7_ping_112 : decode cX7_ping 112 = .ok (.iastore, 1) := by decide +kernel
theorem dX7_ping_113 : decode cX7_ping 113 = .ok (.aload_n 0, 1) := by decide +kernel
theorem dX7_ping_114 : decode cX7_ping 114 = .ok (.getfield 49, 3) := by decide +kernel
theorem dX7_ping_117 : decode cX7_ping 117 = .ok (.aload_n 0, 1) := by decide +kernel
theorem dX7_ping_118 : decode cX7_ping 118 = .ok (.getfield 13, 3) := by decide +kernel
theorem dX7_ping_121 : decode cX7_ping 121 = .ok (.iload 4, 2) := by decide +kernel
theorem dX7_ping_123 : decode cX7_ping 123 = .ok (.iaload, 1) := by decide +kernel
theorem dX7_ping_124 : decode cX7_ping 124 = .ok (.dup2, 1) := by decide +kernel
theorem dX7_ping_125 : decode cX7_ping 125 = .ok (.iaload, 1) := by decide +kernel
theorem dX7_ping_126 : decode cX7_ping 126 = .ok (.iload_n 3, 1) := by decide +kernel
theorem dX7_ping_127 : decode cX7_ping 127 = .ok (.iload 4, 2) := by decide +kernel
theorem dX7_ping_129 : decode cX7_ping 129 = .ok (.invokestatic 119, 3) := by decide +kernel
theorem dX7_ping_132 : decode cX7_ping 132 = .ok (.ifCond .eq 7, 3) := by decide +kernel
theorem dX7_ping_135 : decode cX7_ping 135 = .ok (.iconst 1, 1) := by decide +kernel
theorem dX7_ping_136 : decode cX7_ping 136 = .ok (.goto 4, 3) := by decide +kernel
theorem dX7_ping_139 : decode cX7_ping 139 = .ok (.iconst 0, 1) := by decide +kernel
theorem dX7_ping_140 : decode cX7_ping 140 = .ok (.iadd, 1) := by decide +kernel
theorem dX7_ping_141 : decode cX7_ping 141 = .ok (.iastore, 1) := by decide +kernel
theorem dX7_ping_142 : decode cX7_ping 142 = .ok (.iinc 4 1, 3) := by decide +kernel
theorem dX7_ping_145 : decode cX7_ping 145 = .ok (.goto (-70), 3) := by decide +kernel
theorem dX7_ping_148 : decode cX7_ping 148 = .ok (.aload_n 0, 1) := by decide +kernel
theorem dX7_ping_149 : decode cX7_ping 149 = .ok (.getfield 34, 3) := by decide +kernel
theorem dX7_ping_152 : decode cX7_ping 152 = .ok (.bipush 9, 2) := by decide +kernel
theorem dX7_ping_154 : decode cX7_ping 154 = .ok (.iload_n 1, 1) := by decide +kernel
theorem dX7_ping_155 : decode cX7_ping 155 = .ok (.imul, 1) := by decide +kernel
theorem dX7_ping_156 : decode cX7_ping 156 = .ok (.dup2, 1) := by decide +kernel
theorem dX7_ping_157 : decode cX7_ping 157 = .ok (.iaload, 1) := by decide +kernel
theorem dX7_ping_158 : decode cX7_ping 158 = .ok (.iload_n 3, 1) := by decide +kernel
theorem dX7_ping_159 : decode cX7_ping 159 = .ok (.ior, 1) := by decide +kernel
theorem dX7_ping_160 : decode cX7_ping 160 = .ok (.iastore, 1) := by decide +kernel
theorem dX7_ping_161 : decode cX7_ping 161 = .ok (.iload_n 2, 1) := by decide +kernel
theorem dX7_ping_162 : decode cX7_ping 162 = .ok (.iload_n 3, 1) := by decide +kernel
theorem dX7_ping_163 : decode cX7_ping 163 = .ok (.invokestatic 137, 3) := by decide +kernel
theorem dX7_ping_166 : decode cX7_ping 166 = .ok (.iadd, 1) := by decide +kernel
theorem dX7_ping_167 : decode cX7_ping 167 = .ok (.istore_n 2, 1) := by decide +kernel
theorem dX7_ping_168 : decode cX7_ping 168 = .ok (.goto (-164), 3) := by decide +kernel
theorem dX7_ping_171 : decode cX7_ping 171 = .ok (.iload_n 2, 1) := by decide +kernel
theorem dX7_ping_172 : decode cX7_ping 172 = .ok (.ireturn, 1) := by decide +kernel
theorem dX7_tugOn_0 : decode cX7_tugOn 0 = .ok (.aload_n 0, 1) := by decide +kernel
theorem dX7_tugOn_1 : decode cX7_tugOn 1 = .ok (.invokevirtual 140, 3) := by decide +kernel
theorem dX7_tugOn_4 : decode cX7_tugOn 4 = .ok (.aload_n 0, 1) := by decide +kernel
theorem dX7_tugOn_5 : decode cX7_tugOn 5 = .ok (.getfield 49, 3) := by decide +kernel
theorem dX7_tugOn_8 : decode cX7_tugOn 8 = .ok (.iload_n 2, 1) := by decide +kernel
theorem dX7_tugOn_9 : decode cX7_tugOn 9 = .ok (.iload_n 3, 1) := by decide +kernel
theorem dX7_tugOn_10 : decode cX7_tugOn 10 = .ok (.iastore, 1) := by decide +kernel
theorem dX7_tugOn_11 : decode cX7_tugOn 11 = .ok (.aload_n 0, 1) := by decide +kernel
theorem dX7_tugOn_12 : decode cX7_tugOn 12 = .ok (.iload_n 1, 1) := by decide +kernel
theorem dX7_tugOn_13 : decode cX7_tugOn 13 = .ok (.invokevirtual 143, 3) := by decide +kernel
theorem dX7_tugOn_16 : decode cX7_tugOn 16 = .ok (.ireturn, 1) := by decide +kernel
theorem dX7_passOn_0 : decode cX7_passOn 0 = .ok (.bipush 9, 2) := by decide +kernel
theorem dX7_passOn_2 : decode cX7_passOn 2 = .ok (.iload_n 1, 1) := by decide +kernel
theorem dX7_passOn_3 : decode cX7_passOn 3 = .ok (.imul, 1) := by decide +kernel
theorem dX7_passOn_4 : decode cX7_passOn 4 = .ok (.istore_n 2, 1) := by decide +kernel
theorem dX7_passOn_5 : decode cX7_passOn 5 = .ok (.iconst 0, 1) := by decide +kernel
theorem dX7_passOn_6 : decode cX7_passOn 6 = .ok (.istore_n 3, 1) := by decide +kernel
theorem dX7_passOn_7 : decode cX7_passOn 7 = .ok (.iload_n 3, 1) := by decide +kernel
theorem dX7_passOn_8 : decode cX7_passOn 8 = .ok (.aload_n 0, 1) := by decide +kernel
theorem dX7_passOn_9 : decode cX7_passOn 9 = .ok (.getfield 105, 3) := by decide +kernel
theorem dX7_passOn_12 : decode cX7_passOn 12 = .ok (.if_icmp .ge 37, 3) := by decide +kernel
theorem dX7_passOn_15 : decode cX7_passOn 15 = .ok (.aload_n 0, 1) := by decide +kernel
theorem dX7_passOn_16 : decode cX7_passOn 16 = .ok (.getfield 34, 3) := by decide +kernel
theorem dX7_passOn_19 : decode cX7_passOn 19 = .ok (.iload_n 2, 1) := by decide +kernel
theorem dX7_passOn_20 : decode cX7_passOn 20 = .ok (.dup2, 1) := by decide +kernel
theorem dX7_passOn_21 : decode cX7_passOn 21 = .ok (.iaload, 1) := by decide +kernel
theorem dX7_passOn_22 : decode cX7_passOn 22 = .ok (.aload_n 0, 1) := by decide +kernel
theorem dX7_passOn_23 : decode cX7_passOn 23 = .ok (.getfield 19, 3) := by decide +kernel
theorem dX7_passOn_26 : decode cX7_passOn 26 = .ok (.iload_n 3, 1) := by decide +kernel
theorem dX7_passOn_27 : decode cX7_passOn 27 = .ok (.iaload, 1) := by decide +kernel
theorem dX7_passOn_28 : decode cX7_passOn 28 = .ok (.iconst 3, 1) := by decide +kernel
theorem dX7_passOn_29 : decode cX7_passOn 29 = .ok (.if_icmp .ne 11, 3) := by decide +kernel
theorem dX7_passOn_32 : decode cX7_passOn 32 = .ok (.iconst 1, 1) := by decide +kernel
theorem dX7_passOn_33 : decode cX7_passOn 33 = .ok (.iload_n 3, 1) := by decide +kernel
theorem dX7_passOn_34 : decode cX7_passOn 34 = .ok (.ishl, 1) := by decide +kernel
theorem dX7_passOn_35 : decode cX7_passOn 35 = .ok (.iconst (-1), 1) := by decide +kernel
theorem dX7_passOn_36 : decode cX7_passOn 36 = .ok (.ixor, 1) := by decide +kernel
theorem dX7_passOn_37 : decode cX7_passOn 37 = .ok (.goto 4, 3) := by decide +kernel
theorem dX7_passOn_40 : decode cX7_passOn 40 = .ok (.iconst (-1), 1) := by decide +kernel
theorem dX7_passOn_41 : decode cX7_passOn 41 = .ok (.iand, 1) := by decide +kernel
theorem dX7_passOn_42 : decode cX7_passOn 42 = .ok (.iastore, 1) := by decide +kernel
theorem dX7_passOn_43 : decode cX7_passOn 43 = .ok (.iinc 3 1, 3) := by decide +kernel
theorem dX7_passOn_46 : decode cX7_passOn 46 = .ok (.goto (-39), 3) := by decide +kernel
theorem dX7_passOn_49 : decode cX7_passOn 49 = .ok (.aload_n 0, 1) := by decide +kernel
theorem dX7_passOn_50 : decode cX7_passOn 50 = .ok (.invokevirtual 140, 3) := by decide +kernel
theorem dX7_passOn_53 : decode cX7_passOn 53 = .ok (.aload_n 0, 1) := by decide +kernel
theorem dX7_passOn_54 : decode cX7_passOn 54 = .ok (.getfield 108, 3) := by decide +kernel
theorem dX7_passOn_57 : decode cX7_passOn 57 = .ok (.ifCond .le 46, 3) := by decide +kernel
theorem dX7_passOn_60 : decode cX7_passOn 60 = .ok (.aload_n 0, 1) := by decide +kernel
theorem dX7_passOn_61 : decode cX7_passOn 61 = .ok (.getfield 49, 3) := by decide +kernel
theorem dX7_passOn_64 : decode cX7_passOn 64 = .ok (.aload_n 0, 1) := by decide +kernel
theorem dX7_passOn_65 : decode cX7_passOn 65 = .ok (.getfield 22, 3) := by decide +kernel
theorem dX7_passOn_68 : decode cX7_passOn 68 = .ok (.aload_n 0, 1) := by decide +kernel
theorem dX7_passOn_69 : decode cX7_passOn 69 = .ok (.getfield 34, 3) := by decide +kernel
theorem dX7_passOn_72 : decode cX7_passOn 72 = .ok (.iload_n 2, 1) := by decide +kernel
theorem dX7_passOn_73 : decode cX7_passOn 73 = .ok (.bipush 8, 2) := by decide +kernel
theorem dX7_passOn_75 : decode cX7_passOn 75 = .ok (.iadd, 1) := by decide +kernel
theorem dX7_passOn_76 : decode cX7_passOn 76 = .ok (.iaload, 1) := by decide +kernel
theorem dX7_passOn_77 : decode cX7_passOn 77 = .ok (.aload_n 0, 1) := by decide +kernel
theorem dX7_passOn_78 : decode cX7_passOn 78 = .ok (.getfield 108, 3) := by decide +kernel
theorem dX7_passOn_81 : decode cX7_passOn 81 = .ok (.irem, 1) := by decide +kernel
theorem dX7_passOn_82 : decode cX7_passOn 82 = .ok (.iaload, 1) := by decide +kernel
theorem dX7_passOn_83 : decode cX7_passOn 83 = .ok (.aload_n 0, 1) := by decide +kernel
theorem dX7_passOn_84 : decode cX7_passOn 84 = .ok (.getfield 25, 3) := by decide +kernel
theorem dX7_passOn_87 : decode cX7_passOn 87 = .ok (.aload_n 0, 1) := by decide +kernel
theorem dX7_passOn_88 : decode cX7_passOn 88 = .ok (.getfield 34, 3) := by decide +kernel
theorem dX7_passOn_91 : decode cX7_passOn 91 = .ok (.iload_n 2, 1) := by decide +kernel
theorem dX7_passOn_92 : decode cX7_passOn 92 = .ok (.bipush 8, 2) := by decide +kernel
theorem dX7_passOn_94 : decode cX7_passOn 94 = .ok (.iadd, 1) := by decide +kernel
theorem dX7_passOn_95 : decode cX7_passOn 95 = .ok (.iaload, 1) := by decide +kernel
theorem dX7_passOn_96 : decode cX7_passOn 96 = .ok (.aload_n 0, 1) := by decide +kernel
theorem dX7_passOn_97 : decode cX7_passOn 97 = .ok (.getfield 108, 3) := by decide +kernel
theorem dX7_passOn_100 : decode cX7_passOn 100 = .ok (.irem, 1) := by decide +kernel
theorem dX7_passOn_101 : decode cX7_passOn 101 = .ok (.iaload, 1) := by decide +kernel
theorem dX7_passOn_102 : decode cX7_passOn 102 = .ok (.iastore, 1) := by decide +kernel
theorem dX7_passOn_103 : decode cX7_passOn 103 = .ok (.aload_n 0, 1) := by decide +kernel
theorem dX7_passOn_104 : decode cX7_passOn 104 = .ok (.iload_n 1, 1) := by decide +kernel
theorem dX7_passOn_105 : decode cX7_passOn 105 = .ok (.invokevirtual 143, 3) := by decide +kernel
theorem dX7_passOn_108 : decode cX7_passOn 108 = .ok (.istore_n 3, 1) := by decide +kernel
theorem dX7_passOn_109 : decode cX7_passOn 109 = .ok (.iconst 0, 1) := by decide +kernel
theorem dX7_passOn_110 : decode cX7_passOn 110 = .ok (.istore 4, 2) := by decide +kernel
theorem dX7_passOn_112 : decode cX7_passOn 112 = .ok (.iload 4, 2) := by decide +kernel
theorem dX7_passOn_114 : decode cX7_passOn 114 = .ok (.aload_n 0, 1) := by decide +kernel
theorem dX7_passOn_115 : decode cX7_passOn 115 = .ok (.getfield 105, 3) := by decide +kernel
theorem dX7_passOn_118 : decode cX7_passOn 118 = .ok (.if_icmp .ge 62, 3) := by decide +kernel
theorem dX7_passOn_121 : decode cX7_passOn 121 = .ok (.aload_n 0, 1) := by decide +kernel
theorem dX7_passOn_122 : decode cX7_passOn 122 = .ok (.getfield 34, 3) := by decide +kernel
theorem dX7_passOn_125 : decode cX7_passOn 125 = .ok (.iload_n 2, 1) := by decide +kernel
theorem dX7_passOn_126 : decode cX7_passOn 126 = .ok (.iconst 1, 1) := by decide +kernel
theorem dX7_passOn_127 : decode cX7_passOn 127 = .ok (.iadd, 1) := by decide +kernel
theorem dX7_passOn_128 : decode cX7_passOn 128 = .ok (.iload 4, 2) := by decide +kernel
theorem dX7_passOn_130 : decode cX7_passOn 130 = .ok (.iadd, 1) := by decide +kernel
theorem dX7_passOn_131 : decode cX7_passOn 131 = .ok (.dup2, 1) := by decide +kernel
theorem dX7_passOn_132 : decode cX7_passOn 132 = .ok (.iaload, 1) := by decide +kernel
theorem dX7_passOn_133 : decode cX7_passOn 133 = .ok (.aload_n 0, 1) := by decide +kernel
theorem dX7_passOn_134 : decode cX7_passOn 134 = .ok (.getfield 19, 3) := by decide +kernel
theorem dX7_passOn_137 : decode cX7_passOn 137 = .ok (.iload 4, 2) := by decide +kernel
theorem dX7_passOn_139 : decode cX7_passOn 139 = .ok (.iaload, 1) := by decide +kernel
theorem dX7_passOn_140 : decode cX7_passOn 140 = .ok (.iconst 2, 1) := by decide +kernel
theorem dX7_passOn_141 : decode cX7_passOn 141 = .ok (.if_icmp .ne 30, 3) := by decide +kernel
theorem dX7_passOn_144 : decode cX7_passOn 144 = .ok (.aload_n 0, 1) := by decide +kernel
theorem dX7_passOn_145 : decode cX7_passOn 145 = .ok (.getfield 34, 3) := by decide +kernel
theorem dX7_passOn_148 : decode cX7_passOn 148 = .ok (.iload_n 2, 1) := by decide +kernel
theorem dX7_passOn_149 : decode cX7_passOn 149 = .ok (.iaload, 1) := by decide +kernel
theorem dX7_passOn_150 : decode cX7_passOn 150 = .ok (.iload 4, 2) := by decide +kernel
theorem dX7_passOn_152 : decode cX7_passOn 152 = .ok (.invokestatic 119, 3) := by decide +kernel
theorem dX7_passOn_155 : decode cX7_passOn 155 = .ok (.ifCond .ne 16, 3) := by decide +kernel
theorem dX7_passOn_158 : decode cX7_passOn 158 = .ok (.aload_n 0, 1) := by decide +kernel
theorem dX7_passOn_159 : decode cX7_passOn 159 = .ok (.iload 4, 2) := by decide +kernel
theorem dX7_passOn_161 : decode cX7_passOn 161 = .ok (.invokevirtual 130, 3) := by decide +kernel
theorem dX7_passOn_164 : decode cX7_passOn 164 = .ok (.ifCond .le 7, 3) := by decide +kernel
theorem dX7_passOn_167 : decode cX7_passOn 167 = .ok (.iconst 1, 1) := by decide +kernel
theorem dX7_passOn_168 : decode cX7_passOn 168 = .ok (.goto 4, 3) := by decide +kernel
theorem dX7_passOn_171 : decode cX7_passOn 171 = .ok (.iconst 0, 1) := by decide +kernel
theorem dX7_passOn_172 : decode cX7_passOn 172 = .ok (.iadd, 1) := by decide +kernel
theorem dX7_passOn_173 : decode cX7_passOn 173 = .ok (.iastore, 1) := by decide +kernel
theorem dX7_passOn_174 : decode cX7_passOn 174 = .ok (.iinc 4 1, 3) := by decide +kernel
theorem dX7_passOn_177 : decode cX7_passOn 177 = .ok (.goto (-65), 3) := by decide +kernel
theorem dX7_passOn_180 : decode cX7_passOn 180 = .ok (.aload_n 0, 1) := by decide +kernel
theorem dX7_passOn_181 : decode cX7_passOn 181 = .ok (.getfield 34, 3) := by decide +kernel
theorem dX7_passOn_184 : decode cX7_passOn 184 = .ok (.iload_n 2, 1) := by decide +kernel
theorem dX7_passOn_185 : decode cX7_passOn 185 = .ok (.bipush 8, 2) := by decide +kernel
theorem dX7_passOn_187 : decode cX7_passOn 187 = .ok (.iadd, 1) := by decide +kernel
theorem dX7_passOn_188 : decode cX7_passOn 188 = .ok (.dup2, 1) := by decide +kernel
theorem dX7_passOn_189 : decode cX7_passOn 189 = .ok (.iaload, 1) := by decide +kernel
theorem dX7_passOn_190 : decode cX7_passOn 190 = .ok (.iconst 1, 1) := by decide +kernel
theorem dX7_passOn_191 : decode cX7_passOn 191 = .ok (.iadd, 1) := by decide +kernel
theorem dX7_passOn_192 : decode cX7_passOn 192 = .ok (.iastore, 1) := by decide +kernel
theorem dX7_passOn_193 : decode cX7_passOn 193 = .ok (.iload_n 3, 1) := by decide +kernel
theorem dX7_passOn_194 : decode cX7_passOn 194 = .ok (.ireturn, 1) := by decide +kernel
theorem dX7_shutOn_0 : decode cX7_shutOn 0 = .ok (.aload_n 0, 1) := by decide +kernel
theorem dX7_shutOn_1 : decode cX7_shutOn 1 = .ok (.getfield 34, 3) := by decide +kernel
theorem dX7_shutOn_4 : decode cX7_shutOn 4 = .ok (.bipush 9, 2) := by decide +kernel
theorem dX7_shutOn_6 : decode cX7_shutOn 6 = .ok (.iload_n 1, 1) := by decide +kernel
theorem dX7_shutOn_7 : decode cX7_shutOn 7 = .ok (.imul, 1) := by decide +kernel
theorem dX7_shutOn_8 : decode cX7_shutOn 8 = .ok (.dup2, 1) := by decide +kernel
theorem dX7_shutOn_9 : decode cX7_shutOn 9 = .ok (.iaload, 1) := by decide +kernel
theorem dX7_shutOn_10 : decode cX7_shutOn 10 = .ok (.iconst 1, 1) := by decide +kernel
theorem dX7_shutOn_11 : decode cX7_shutOn 11 = .ok (.iload_n 2, 1) := by decide +kernel
theorem dX7_shutOn_12 : decode cX7_shutOn 12 = .ok (.ishl, 1) := by decide +kernel
theorem dX7_shutOn_13 : decode cX7_shutOn 13 = .ok (.iconst (-1), 1) := by decide +kernel
theorem dX7_shutOn_14 : decode cX7_shutOn 14 = .ok (.ixor, 1) := by decide +kernel
theorem dX7_shutOn_15 : decode cX7_shutOn 15 = .ok (.iand, 1) := by decide +kernel
theorem dX7_shutOn_16 : decode cX7_shutOn 16 = .ok (.iastore, 1) := by decide +kernel
theorem dX7_shutOn_17 : decode cX7_shutOn 17 = .ok (.aload_n 0, 1) := by decide +kernel
theorem dX7_shutOn_18 : decode cX7_shutOn 18 = .ok (.getfield 34, 3) := by decide +kernel
theorem dX7_shutOn_21 : decode cX7_shutOn 21 = .ok (.bipush 9, 2) := by decide +kernel
theorem dX7_shutOn_23 : decode cX7_shutOn 23 = .ok (.iload_n 1, 1) := by decide +kernel
theorem dX7_shutOn_24 : decode cX7_shutOn 24 = .ok (.imul, 1) := by decide +kernel
theorem dX7_shutOn_25 : decode cX7_shutOn 25 = .ok (.iconst 1, 1) := by decide +kernel
theorem dX7_shutOn_26 : decode cX7_shutOn 26 = .ok (.iadd, 1) := by decide +kernel
theorem dX7_shutOn_27 : decode cX7_shutOn 27 = .ok (.iload_n 2, 1) := by decide +kernel
theorem dX7_shutOn_28 : decode cX7_shutOn 28 = .ok (.iadd, 1) := by decide +kernel
theorem dX7_shutOn_29 : decode cX7_shutOn 29 = .ok (.iconst 0, 1) := by decide +kernel
theorem dX7_shutOn_30 : decode cX7_shutOn 30 = .ok (.iastore, 1) := by decide +kernel
theorem dX7_shutOn_31 : decode cX7_shutOn 31 = .ok (.return_, 1) := by decide +kernel
theorem dX7_pin_0 : decode cX7_pin 0 = .ok (.aload_n 0, 1) := by decide +kernel
theorem dX7_pin_1 : decode cX7_pin 1 = .ok (.iload_n 1, 1) := by decide +kernel
theorem dX7_pin_2 : decode cX7_pin 2 = .ok (.invokevirtual 146, 3) := by decide +kernel
theorem dX7_pin_5 : decode cX7_pin 5 = .ok (.ifCond .ne 5, 3) := by decide +kernel
theorem dX7_pin_8 : decode cX7_pin 8 = .ok (.iconst (-1), 1) := by decide +kernel
theorem dX7_pin_9 : decode cX7_pin 9 = .ok (.ireturn, 1) := by decide +kernel
theorem dX7_pin_10 : decode cX7_pin 10 = .ok (.iload_n 2, 1) := by decide +kernel
theorem dX7_pin_11 : decode cX7_pin 11 = .ok (.tableswitch 96 0 6 #[41, 48, 55, 62, 69, 76, 85], 41) := by decide +kernel
theorem dX7_pin_52 : decode cX7_pin 52 = .ok (.aload_n 0, 1) := by decide +kernel
theorem dX7_pin_53 : decode cX7_pin 53 = .ok (.getfield 7, 3) := by decide +kernel
theorem dX7_pin_56 : decode cX7_pin 56 = .ok (.iload_n 1, 1) := by decide +kernel
theorem dX7_pin_57 : decode cX7_pin 57 = .ok (.iaload, 1) := by decide +kernel
theorem dX7_pin_58 : decode cX7_pin 58 = .ok (.ireturn, 1) := by decide +kernel
theorem dX7_pin_59 : decode cX7_pin 59 = .ok (.aload_n 0, 1) := by decide +kernel
theorem dX7_pin_60 : decode cX7_pin 60 = .ok (.getfield 13, 3) := by decide +kernel
theorem dX7_pin_63 : decode cX7_pin 63 = .ok (.iload_n 1, 1) := by decide +kernel
theorem dX7_pin_64 : decode cX7_pin 64 = .ok (.iaload, 1) := by decide +kernel
theorem dX7_pin_65 : decode cX7_pin 65 = .ok (.ireturn, 1) := by decide +kernel
theorem dX7_pin_66 : decode cX7_pin 66 = .ok (.aload_n 0, 1) := by decide +kernel
theorem dX7_pin_67 : decode cX7_pin 67 = .ok (.getfield 16, 3) := by decide +kernel
theorem dX7_pin_70 : decode cX7_pin 70 = .ok (.iload_n 1, 1) := by decide +kernel
theorem dX7_pin_71 : decode cX7_pin 71 = .ok (.iaload, 1) := by decide +kernel
theorem dX7_pin_72 : decode cX7_pin 72 = .ok (.ireturn, 1) := by decide +kernel
theorem dX7_pin_73 : decode cX7_pin 73 = .ok (.aload_n 0, 1) := by decide +kernel
theorem dX7_pin_74 : decode cX7_pin 74 = .ok (.getfield 19, 3) := by decide +kernel
theorem dX7_pin_77 : decode cX7_pin 77 = .ok (.iload_n 1, 1) := by decide +kernel
theorem dX7_pin_78 : decode cX7_pin 78 = .ok (.iaload, 1) := by decide +kernel
theorem dX7_pin_79 : decode cX7_pin 79 = .ok (.ireturn, 1) := by decide +kernel
theorem dX7_pin_80 : decode cX7_pin 80 = .ok (.aload_n 0, 1) := by decide +kernel
theorem dX7_pin_81 : decode cX7_pin 81 = .ok (.iconst 0, 1) := by decide +kernel
theorem dX7_pin_82 : decode cX7_pin 82 = .ok (.iload_n 1, 1) := by decide +kernel
theorem dX7_pin_83 : decode cX7_pin 83 = .ok (.invokevirtual 134, 3) := by decide +kernel
theorem dX7_pin_86 : decode cX7_pin 86 = .ok (.ireturn, 1) := by decide +kernel
theorem dX7_pin_87 : decode cX7_pin 87 = .ok (.aload_n 0, 1) := by decide +kernel
theorem dX7_pin_88 : decode cX7_pin 88 = .ok (.getfield 34, 3) := by decide +kernel
theorem dX7_pin_91 : decode cX7_pin 91 = .ok (.iconst 1, 1) := by decide +kernel
theorem dX7_pin_92 : decode cX7_pin 92 = .ok (.iload_n 1, 1) := by decide +kernel
theorem dX7_pin_93 : decode cX7_pin 93 = .ok (.iadd, 1) := by decide +kernel
theorem dX7_pin_94 : decode cX7_pin 94 = .ok (.iaload, 1) := by decide +kernel
theorem dX7_pin_95 : decode cX7_pin 95 = .ok (.ireturn, 1) := by decide +kernel
theorem dX7_pin_96 : decode cX7_pin 96 = .ok (.aload_n 0, 1) := by decide +kernel
theorem dX7_pin_97 : decode cX7_pin 97 = .ok (.getfield 34, 3) := by decide +kernel
theorem dX7_pin_100 : decode cX7_pin 100 = .ok (.iconst 0, 1) := by decide +kernel
theorem dX7_pin_101 : decode cX7_pin 101 = .ok (.iaload, 1) := by decide +kernel
theorem dX7_pin_102 : decode cX7_pin 102 = .ok (.iload_n 1, 1) := by decide +kernel
theorem dX7_pin_103 : decode cX7_pin 103 = .ok (.ishr, 1) := by decide +kernel
theorem dX7_pin_104 : decode cX7_pin 104 = .ok (.iconst 1, 1) := by decide +kernel
theorem dX7_pin_105 : decode cX7_pin 105 = .ok (.iand, 1) := by decide +kernel
theorem dX7_pin_106 : decode cX7_pin 106 = .ok (.ireturn, 1) := by decide +kernel
theorem dX7_pin_107 : decode cX7_pin 107 = .ok (.bipush (-2), 2) := by decide +kernel
theorem dX7_pin_109 : decode cX7_pin 109 = .ok (.ireturn, 1) := by decide +kernel
theorem dX7_with_0 : decode cX7_with 0 = .ok (.iload_n 1, 1) := by decide +kernel
theorem dX7_with_1 : decode cX7_with 1 = .ok (.invokestatic 150, 3) := by decide +kernel
theorem dX7_with_4 : decode cX7_with 4 = .ok (.ifCond .eq 17, 3) := by decide +kernel
theorem dX7_with_7 : decode cX7_with 7 = .ok (.aload_n 0, 1) := by decide +kernel
theorem dX7_with_8 : decode cX7_with 8 = .ok (.iload_n 1, 1) := by decide +kernel
theorem dX7_with_9 : decode cX7_with 9 = .ok (.aload_n 0, 1) := by decide +kernel
theorem dX7_with_10 : decode cX7_with 10 = .ok (.getfield 34, 3) := by decide +kernel
theorem dX7_with_13 : decode cX7_with 13 = .ok (.iconst 0, 1) := by decide +kernel
theorem dX7_with_14 : decode cX7_with 14 = .ok (.iaload, 1) := by decide +kernel
theorem dX7_with_15 : decode cX7_with 15 = .ok (.invokevirtual 123, 3) := by decide +kernel
theorem dX7_with_18 : decode cX7_with 18 = .ok (.goto 4, 3) := by decide +kernel
theorem dX7_with_21 : decode cX7_with 21 = .ok (.iconst (-1), 1) := by decide +kernel
theorem dX7_with_22 : decode cX7_with 22 = .ok (.ireturn, 1) := by decide +kernel
theorem dX7_keepAct_0 : decode cX7_keepAct 0 = .ok (.iconst 0, 1) := by decide +kernel
theorem dX7_keepAct_1 : decode cX7_keepAct 1 = .ok (.istore_n 1, 1) := by decide +kernel
theorem dX7_keepAct_2 : decode cX7_keepAct 2 = .ok (.iload_n 1, 1) := by decide +kernel
theorem dX7_keepAct_3 : decode cX7_keepAct 3 = .ok (.bipush 9, 2) := by decide +kernel
theorem dX7_keepAct_5 : decode cX7_keepAct 5 = .ok (.if_icmp .ge 29, 3) := by decide +kernel
theorem dX7_keepAct_8 : decode cX7_keepAct 8 = .ok (.aload_n 0, 1) := by decide +kernel
theorem dX7_keepAct_9 : decode cX7_keepAct 9 = .ok (.getfield 52, 3) := by decide +kernel
theorem dX7_keepAct_12 : decode cX7_keepAct 12 = .ok (.bipush 9, 2) := by decide +kernel
theorem dX7_keepAct_14 : decode cX7_keepAct 14 = .ok (.aload_n 0, 1) := by decide +kernel
theorem dX7_keepAct_15 : decode cX7_keepAct 15 = .ok (.getfield 153, 3) := by decide +kernel
theorem dX7_keepAct_18 : decode cX7_keepAct 18 = .ok (.imul, 1) := by decide +kernel
theorem dX7_keepAct_19 : decode cX7_keepAct 19 = .ok (.iload_n 1, 1) := by decide +kernel
theorem dX7_keepAct_20 : decode cX7_keepAct 20 = .ok (.iadd, 1) := by decide +kernel
theorem dX7_keepAct_21 : decode cX7_keepAct 21 = .ok (.aload_n 0, 1) := by decide +kernel
theorem dX7_keepAct_22 : decode cX7_keepAct 22 = .ok (.getfield 34, 3) := by decide +kernel
theorem dX7_keepAct_25 : decode cX7_keepAct 25 = .ok (.iload_n 1, 1) := by decide +kernel
theorem dX7_keepAct_26 : decode cX7_keepAct 26 = .ok (.iaload, 1) := by decide +kernel
theorem dX7_keepAct_27 : decode cX7_keepAct 27 = .ok (.iastore, 1) := by decide +kernel
theorem dX7_keepAct_28 : decode cX7_keepAct 28 = .ok (.iinc 1 1, 3) := by decide +kernel
theorem dX7_keepAct_31 : decode cX7_keepAct 31 = .ok (.goto (-29), 3) := by decide +kernel
theorem dX7_keepAct_34 : decode cX7_keepAct 34 = .ok (.aload_n 0, 1) := by decide +kernel
theorem dX7_keepAct_35 : decode cX7_keepAct 35 = .ok (.aload_n 0, 1) := by decide +kernel
theorem dX7_keepAct_36 : decode cX7_keepAct 36 = .ok (.getfield 153, 3) := by decide +kernel
theorem dX7_keepAct_39 : decode cX7_keepAct 39 = .ok (.iconst 1, 1) := by decide +kernel
theorem dX7_keepAct_40 : decode cX7_keepAct 40 = .ok (.iadd, 1) := by decide +kernel
theorem dX7_keepAct_41 : decode cX7_keepAct 41 = .ok (.bipush 14, 2) := by decide +kernel
theorem dX7_keepAct_43 : decode cX7_keepAct 43 = .ok (.irem, 1) := by decide +kernel
theorem dX7_keepAct_44 : decode cX7_keepAct 44 = .ok (.putfield 153, 3) := by decide +kernel
theorem dX7_keepAct_47 : decode cX7_keepAct 47 = .ok (.aload_n 0, 1) := by decide +kernel
theorem dX7_keepAct_48 : decode cX7_keepAct 48 = .ok (.aload_n 0, 1) := by decide +kernel
theorem dX7_keepAct_49 : decode cX7_keepAct 49 = .ok (.getfield 114, 3) := by decide +kernel
theorem dX7_keepAct_52 : decode cX7_keepAct 52 = .ok (.bipush 14, 2) := by decide +kernel
theorem dX7_keepAct_54 : decode cX7_keepAct 54 = .ok (.if_icmp .ge 12, 3) := by decide +kernel
theorem dX7_keepAct_57 : decode cX7_keepAct 57 = .ok (.aload_n 0, 1) := by decide +kernel
theorem dX7_keepAct_58 : decode cX7_keepAct 58 = .ok (.getfield 114, 3) := by decide +kernel
theorem dX7_keepAct_61 : decode cX7_keepAct 61 = .ok (.iconst 1, 1) := by decide +kernel
theorem dX7_keepAct_62 : decode cX7_keepAct 62 = .ok (.iadd, 1) := by decide +kernel
theorem dX7_keepAct_63 : decode cX7_keepAct 63 = .ok (.goto 5, 3) := by decide +kernel
theorem dX7_keepAct_66 : decode cX7_keepAct 66 = .ok (.bipush 14, 2) := by decide +kernel
theorem dX7_keepAct_68 : decode cX7_keepAct 68 = .ok (.putfield 114, 3) := by decide +kernel
theorem dX7_keepAct_71 : decode cX7_keepAct 71 = .ok (.return_, 1) := by decide +kernel
theorem dX7_day_0 : decode cX7_day 0 = .ok (.aload_n 0, 1) := by decide +kernel
theorem dX7_day_1 : decode cX7_day 1 = .ok (.invokevirtual 156, 3) := by decide +kernel
theorem dX7_day_4 : decode cX7_day 4 = .ok (.aload_n 0, 1) := by decide +kernel
theorem dX7_day_5 : decode cX7_day 5 = .ok (.iconst 0, 1) := by decide +kernel
theorem dX7_day_6 : decode cX7_day 6 = .ok (.invokevirtual 159, 3) := by decide +kernel
theorem dX7_day_9 : decode cX7_day 9 = .ok (.ireturn, 1) := by decide +kernel
theorem dX7_tug_0 : decode cX7_tug 0 = .ok (.iload_n 1, 1) := by decide +kernel
theorem dX7_tug_1 : decode cX7_tug 1 = .ok (.invokestatic 150, 3) := by decide +kernel
theorem dX7_tug_4 : decode cX7_tug 4 = .ok (.ifCond .ne 5, 3) := by decide +kernel
theorem dX7_tug_7 : decode cX7_tug 7 = .ok (.iconst (-1), 1) := by decide +kernel
theorem dX7_tug_8 : decode cX7_tug 8 = .ok (.ireturn, 1) := by decide +kernel
theorem dX7_tug_9 : decode cX7_tug 9 = .ok (.iload_n 2, 1) := by decide +kernel
theorem dX7_tug_10 : decode cX7_tug 10 = .ok (.i2l, 1) := by decide +kernel
theorem dX7_tug_11 : decode cX7_tug 11 = .ok (.lconst 1, 1) := by decide +kernel
theorem dX7_tug_12 : decode cX7_tug 12 = .ok (.ldc2_w 162, 3) := by decide +kernel
theorem dX7_tug_15 : decode cX7_tug 15 = .ok (.invokestatic 70, 3) := by decide +kernel
theorem dX7_tug_18 : decode cX7_tug 18 = .ok (.ifCond .ne 6, 3) := by decide +kernel
theorem dX7_tug_21 : decode cX7_tug 21 = .ok (.bipush (-2), 2) := by decide +kernel
theorem dX7_tug_23 : decode cX7_tug 23 = .ok (.ireturn, 1) := by decide +kernel
theorem dX7_tug_24 : decode cX7_tug 24 = .ok (.aload_n 0, 1) := by decide +kernel
theorem dX7_tug_25 : decode cX7_tug 25 = .ok (.invokevirtual 156, 3) := by decide +kernel
theorem dX7_tug_28 : decode cX7_tug 28 = .ok (.aload_n 0, 1) := by decide +kernel
theorem dX7_tug_29 : decode cX7_tug 29 = .ok (.iconst 0, 1) := by decide +kernel
theorem dX7_tug_30 : decode cX7_tug 30 = .ok (.iload_n 1, 1) := by decide +kernel
theorem dX7_tug_31 : decode cX7_tug 31 = .ok (.iload_n 2, 1) := by decide +kernel
theorem dX7_tug_32 : decode cX7_tug 32 = .ok (.invokevirtual 164, 3) := by decide +kernel
theorem dX7_tug_35 : decode cX7_tug 35 = .ok (.ireturn, 1) := by decide +kernel
end
section
theorem dX7_shut_0 : decode cX7_shut 0 = .ok (.aload_n 0, 1) := by decide +kernel
theorem dX7_shut_1 : decode cX7_shut 1 = .ok (.iload_n 1, 1) := by decide +kernel
theorem dX7_shut_2 : decode cX7_shut 2 = .ok (.invokevirtual 146, 3) := by decide +kernel
theorem dX7_shut_5 : decode cX7_shut 5 = .ok (.ifCond .ne 5, 3) := by decide +kernel
theorem dX7_shut_8 : decode cX7_shut 8 = .ok (.iconst (-1), 1) := by decide +kernel
theorem dX7_shut_9 : decode cX7_shut 9 = .ok (.ireturn, 1) := by decide +kernel
theorem dX7_shut_10 : decode cX7_shut 10 = .ok (.aload_n 0, 1) := by decide +kernel
theorem dX7_shut_11 : decode cX7_shut 11 = .ok (.getfield 34, 3) := by decide +kernel
theorem dX7_shut_14 : decode cX7_shut 14 = .ok (.iconst 0, 1) := by decide +kernel
theorem dX7_shut_15 : decode cX7_shut 15 = .ok (.iaload, 1) := by decide +kernel
theorem dX7_shut_16 : decode cX7_shut 16 = .ok (.iload_n 1, 1) := by decide +kernel
theorem dX7_shut_17 : decode cX7_shut 17 = .ok (.invokestatic 119, 3) := by decide +kernel
theorem dX7_shut_20 : decode cX7_shut 20 = .ok (.ifCond .ne 6, 3) := by decide +kernel
theorem dX7_shut_23 : decode cX7_shut 23 = .ok (.bipush (-3), 2) := by decide +kernel
theorem dX7_shut_25 : decode cX7_shut 25 = .ok (.ireturn, 1) := by decide +kernel
theorem dX7_shut_26 : decode cX7_shut 26 = .ok (.aload_n 0, 1) := by decide +kernel
theorem dX7_shut_27 : decode cX7_shut 27 = .ok (.invokevirtual 156, 3) := by decide +kernel
theorem dX7_shut_30 : decode cX7_shut 30 = .ok (.aload_n 0, 1) := by decide +kernel
theorem dX7_shut_31 : decode cX7_shut 31 = .ok (.iconst 0, 1) := by decide +kernel
theorem dX7_shut_32 : decode cX7_shut 32 = .ok (.iload_n 1, 1) := by decide +kernel
theorem dX7_shut_33 : decode cX7_shut 33 = .ok (.invokevirtual 168, 3) := by decide +kernel
theorem dX7_shut_36 : decode cX7_shut 36 = .ok (.aload_n 0, 1) := by decide +kernel
theorem dX7_shut_37 : decode cX7_shut 37 = .ok (.getfield 34, 3) := by decide +kernel
theorem dX7_shut_40 : decode cX7_shut 40 = .ok (.iconst 0, 1) := by decide +kernel
theorem dX7_shut_41 : decode cX7_shut 41 = .ok (.iaload, 1) := by decide +kernel
theorem dX7_shut_42 : decode cX7_shut 42 = .ok (.invokestatic 137, 3) := by decide +kernel
theorem dX7_shut_45 : decode cX7_shut 45 = .ok (.ireturn, 1) := by decide +kernel
theorem dX7_open_0 : decode cX7_open 0 = .ok (.aload_n 0, 1) := by decide +kernel
theorem dX7_open_1 : decode cX7_open 1 = .ok (.iload_n 1, 1) := by decide +kernel
theorem dX7_open_2 : decode cX7_open 2 = .ok (.invokevirtual 146, 3) := by decide +kernel
theorem dX7_open_5 : decode cX7_open 5 = .ok (.ifCond .ne 5, 3) := by decide +kernel
theorem dX7_open_8 : decode cX7_open 8 = .ok (.iconst (-1), 1) := by decide +kernel
theorem dX7_open_9 : decode cX7_open 9 = .ok (.ireturn, 1) := by decide +kernel
theorem dX7_open_10 : decode cX7_open 10 = .ok (.aload_n 0, 1) := by decide +kernel
theorem dX7_open_11 : decode cX7_open 11 = .ok (.getfield 34, 3) := by decide +kernel
theorem dX7_open_14 : decode cX7_open 14 = .ok (.iconst 0, 1) := by decide +kernel
theorem dX7_open_15 : decode cX7_open 15 = .ok (.iaload, 1) := by decide +kernel
theorem dX7_open_16 : decode cX7_open 16 = .ok (.iload_n 1, 1) := by decide +kernel
theorem dX7_open_17 : decode cX7_open 17 = .ok (.invokestatic 119, 3) := by decide +kernel
theorem dX7_open_20 : decode cX7_open 20 = .ok (.ifCond .eq 6, 3) := by decide +kernel
theorem dX7_open_23 : decode cX7_open 23 = .ok (.bipush (-3), 2) := by decide +kernel
theorem dX7_open_25 : decode cX7_open 25 = .ok (.ireturn, 1) := by decide +kernel
theorem dX7_open_26 : decode cX7_open 26 = .ok (.aload_n 0, 1) := by decide +kernel
theorem dX7_open_27 : decode cX7_open 27 = .ok (.invokevirtual 156, 3) := by decide +kernel
theorem dX7_open_30 : decode cX7_open 30 = .ok (.aload_n 0, 1) := by decide +kernel
theorem dX7_open_31 : decode cX7_open 31 = .ok (.getfield 34, 3) := by decide +kernel
theorem dX7_open_34 : decode cX7_open 34 = .ok (.iconst 0, 1) := by decide +kernel
theorem dX7_open_35 : decode cX7_open 35 = .ok (.dup2, 1) := by decide +kernel
theorem dX7_open_36 : decode cX7_open 36 = .ok (.iaload, 1) := by decide +kernel
theorem dX7_open_37 : decode cX7_open 37 = .ok (.iconst 1, 1) := by decide +kernel
theorem dX7_open_38 : decode cX7_open 38 = .ok (.iload_n 1, 1) := by decide +kernel
theorem dX7_open_39 : decode cX7_open 39 = .ok (.ishl, 1) := by decide +kernel
theorem dX7_open_40 : decode cX7_open 40 = .ok (.ior, 1) := by decide +kernel
theorem dX7_open_41 : decode cX7_open 41 = .ok (.iastore, 1) := by decide +kernel
theorem dX7_open_42 : decode cX7_open 42 = .ok (.aload_n 0, 1) := by decide +kernel
theorem dX7_open_43 : decode cX7_open 43 = .ok (.getfield 34, 3) := by decide +kernel
theorem dX7_open_46 : decode cX7_open 46 = .ok (.iconst 0, 1) := by decide +kernel
theorem dX7_open_47 : decode cX7_open 47 = .ok (.iaload, 1) := by decide +kernel
theorem dX7_open_48 : decode cX7_open 48 = .ok (.invokestatic 137, 3) := by decide +kernel
theorem dX7_open_51 : decode cX7_open 51 = .ok (.ireturn, 1) := by decide +kernel
theorem dX7_undo_0 : decode cX7_undo 0 = .ok (.aload_n 0, 1) := by decide +kernel
theorem dX7_undo_1 : decode cX7_undo 1 = .ok (.getfield 114, 3) := by decide +kernel
theorem dX7_undo_4 : decode cX7_undo 4 = .ok (.ifCond .ne 6, 3) := by decide +kernel
theorem dX7_undo_7 : decode cX7_undo 7 = .ok (.bipush (-3), 2) := by decide +kernel
theorem dX7_undo_9 : decode cX7_undo 9 = .ok (.ireturn, 1) := by decide +kernel
theorem dX7_undo_10 : decode cX7_undo 10 = .ok (.aload_n 0, 1) := by decide +kernel
theorem dX7_undo_11 : decode cX7_undo 11 = .ok (.dup, 1) := by decide +kernel
theorem dX7_undo_12 : decode cX7_undo 12 = .ok (.getfield 114, 3) := by decide +kernel
theorem dX7_undo_15 : decode cX7_undo 15 = .ok (.iconst 1, 1) := by decide +kernel
theorem dX7_undo_16 : decode cX7_undo 16 = .ok (.isub, 1) := by decide +kernel
theorem dX7_undo_17 : decode cX7_undo 17 = .ok (.putfield 114, 3) := by decide +kernel
theorem dX7_undo_20 : decode cX7_undo 20 = .ok (.aload_n 0, 1) := by decide +kernel
theorem dX7_undo_21 : decode cX7_undo 21 = .ok (.aload_n 0, 1) := by decide +kernel
theorem dX7_undo_22 : decode cX7_undo 22 = .ok (.getfield 153, 3) := by decide +kernel
theorem dX7_undo_25 : decode cX7_undo 25 = .ok (.bipush 13, 2) := by decide +kernel
theorem dX7_undo_27 : decode cX7_undo 27 = .ok (.iadd, 1) := by decide +kernel
theorem dX7_undo_28 : decode cX7_undo 28 = .ok (.bipush 14, 2) := by decide +kernel
theorem dX7_undo_30 : decode cX7_undo 30 = .ok (.irem, 1) := by decide +kernel
theorem dX7_undo_31 : decode cX7_undo 31 = .ok (.putfield 153, 3) := by decide +kernel
theorem dX7_undo_34 : decode cX7_undo 34 = .ok (.iconst 0, 1) := by decide +kernel
theorem dX7_undo_35 : decode cX7_undo 35 = .ok (.istore_n 1, 1) := by decide +kernel
theorem dX7_undo_36 : decode cX7_undo 36 = .ok (.iload_n 1, 1) := by decide +kernel
theorem dX7_undo_37 : decode cX7_undo 37 = .ok (.bipush 9, 2) := by decide +kernel
theorem dX7_undo_39 : decode cX7_undo 39 = .ok (.if_icmp .ge 29, 3) := by decide +kernel
theorem dX7_undo_42 : decode cX7_undo 42 = .ok (.aload_n 0, 1) := by decide +kernel
theorem dX7_undo_43 : decode cX7_undo 43 = .ok (.getfield 34, 3) := by decide +kernel
theorem dX7_undo_46 : decode cX7_undo 46 = .ok (.iload_n 1, 1) := by decide +kernel
theorem dX7_undo_47 : decode cX7_undo 47 = .ok (.aload_n 0, 1) := by decide +kernel
theorem dX7_undo_48 : decode cX7_undo 48 = .ok (.getfield 52, 3) := by decide +kernel
theorem dX7_undo_51 : decode cX7_undo 51 = .ok (.bipush 9, 2) := by decide +kernel
theorem dX7_undo_53 : decode cX7_undo 53 = .ok (.aload_n 0, 1) := by decide +kernel
theorem dX7_undo_54 : decode cX7_undo 54 = .ok (.getfield 153, 3) := by decide +kernel
theorem dX7_undo_57 : decode cX7_undo 57 = .ok (.imul, 1) := by decide +kernel
theorem dX7_undo_58 : decode cX7_undo 58 = .ok (.iload_n 1, 1) := by decide +kernel
theorem dX7_undo_59 : decode cX7_undo 59 = .ok (.iadd, 1) := by decide +kernel
theorem dX7_undo_60 : decode cX7_undo 60 = .ok (.iaload, 1) := by decide +kernel
theorem dX7_undo_61 : decode cX7_undo 61 = .ok (.iastore, 1) := by decide +kernel
theorem dX7_undo_62 : decode cX7_undo 62 = .ok (.iinc 1 1, 3) := by decide +kernel
theorem dX7_undo_65 : decode cX7_undo 65 = .ok (.goto (-29), 3) := by decide +kernel
theorem dX7_undo_68 : decode cX7_undo 68 = .ok (.aload_n 0, 1) := by decide +kernel
theorem dX7_undo_69 : decode cX7_undo 69 = .ok (.getfield 114, 3) := by decide +kernel
theorem dX7_undo_72 : decode cX7_undo 72 = .ok (.ireturn, 1) := by decide +kernel
theorem dX7_layTrial_0 : decode cX7_layTrial 0 = .ok (.iconst 0, 1) := by decide +kernel
theorem dX7_layTrial_1 : decode cX7_layTrial 1 = .ok (.istore_n 1, 1) := by decide +kernel
theorem dX7_layTrial_2 : decode cX7_layTrial 2 = .ok (.iload_n 1, 1) := by decide +kernel
theorem dX7_layTrial_3 : decode cX7_layTrial 3 = .ok (.bipush 9, 2) := by decide +kernel
theorem dX7_layTrial_5 : decode cX7_layTrial 5 = .ok (.if_icmp .ge 24, 3) := by decide +kernel
theorem dX7_layTrial_8 : decode cX7_layTrial 8 = .ok (.aload_n 0, 1) := by decide +kernel
theorem dX7_layTrial_9 : decode cX7_layTrial 9 = .ok (.getfield 34, 3) := by decide +kernel
theorem dX7_layTrial_12 : decode cX7_layTrial 12 = .ok (.bipush 9, 2) := by decide +kernel
theorem dX7_layTrial_14 : decode cX7_layTrial 14 = .ok (.iload_n 1, 1) := by decide +kernel
theorem dX7_layTrial_15 : decode cX7_layTrial 15 = .ok (.iadd, 1) := by decide +kernel
theorem dX7_layTrial_16 : decode cX7_layTrial 16 = .ok (.aload_n 0, 1) := by decide +kernel
theorem dX7_layTrial_17 : decode cX7_layTrial 17 = .ok (.getfield 34, 3) := by decide +kernel
theorem dX7_layTrial_20 : decode cX7_layTrial 20 = .ok (.iload_n 1, 1) := by decide +kernel
theorem dX7_layTrial_21 : decode cX7_layTrial 21 = .ok (.iaload, 1) := by decide +kernel
theorem dX7_layTrial_22 : decode cX7_layTrial 22 = .ok (.iastore, 1) := by decide +kernel
theorem dX7_layTrial_23 : decode cX7_layTrial 23 = .ok (.iinc 1 1, 3) := by decide +kernel
theorem dX7_layTrial_26 : decode cX7_layTrial 26 = .ok (.goto (-24), 3) := by decide +kernel
theorem dX7_layTrial_29 : decode cX7_layTrial 29 = .ok (.return_, 1) := by decide +kernel
theorem dX7_later_0 : decode cX7_later 0 = .ok (.iload_n 1, 1) := by decide +kernel
theorem dX7_later_1 : decode cX7_later 1 = .ok (.i2l, 1) := by decide +kernel
theorem dX7_later_2 : decode cX7_later 2 = .ok (.lconst 0, 1) := by decide +kernel
theorem dX7_later_3 : decode cX7_later 3 = .ok (.ldc2_w 172, 3) := by decide +kernel
theorem dX7_later_6 : decode cX7_later 6 = .ok (.invokestatic 70, 3) := by decide +kernel
theorem dX7_later_9 : decode cX7_later 9 = .ok (.ifCond .ne 6, 3) := by decide +kernel
theorem dX7_later_12 : decode cX7_later 12 = .ok (.bipush (-2), 2) := by decide +kernel
theorem dX7_later_14 : decode cX7_later 14 = .ok (.ireturn, 1) := by decide +kernel
theorem dX7_later_15 : decode cX7_later 15 = .ok (.aload_n 0, 1) := by decide +kernel
theorem dX7_later_16 : decode cX7_later 16 = .ok (.invokevirtual 174, 3) := by decide +kernel
theorem dX7_later_19 : decode cX7_later 19 = .ok (.iconst 0, 1) := by decide +kernel
theorem dX7_later_20 : decode cX7_later 20 = .ok (.istore_n 2, 1) := by decide +kernel
theorem dX7_later_21 : decode cX7_later 21 = .ok (.iload_n 2, 1) := by decide +kernel
theorem dX7_later_22 : decode cX7_later 22 = .ok (.iload_n 1, 1) := by decide +kernel
theorem dX7_later_23 : decode cX7_later 23 = .ok (.if_icmp .ge 15, 3) := by decide +kernel
theorem dX7_later_26 : decode cX7_later 26 = .ok (.aload_n 0, 1) := by decide +kernel
theorem dX7_later_27 : decode cX7_later 27 = .ok (.iconst 1, 1) := by decide +kernel
theorem dX7_later_28 : decode cX7_later 28 = .ok (.invokevirtual 159, 3) := by decide +kernel
theorem dX7_later_31 : decode cX7_later 31 = .ok (.pop, 1) := by decide +kernel
theorem dX7_later_32 : decode cX7_later 32 = .ok (.iinc 2 1, 3) := by decide +kernel
theorem dX7_later_35 : decode cX7_later 35 = .ok (.goto (-14), 3) := by decide +kernel
theorem dX7_later_38 : decode cX7_later 38 = .ok (.aload_n 0, 1) := by decide +kernel
theorem dX7_later_39 : decode cX7_later 39 = .ok (.getfield 34, 3) := by decide +kernel
theorem dX7_later_42 : decode cX7_later 42 = .ok (.bipush 9, 2) := by decide +kernel
theorem dX7_later_44 : decode cX7_later 44 = .ok (.iaload, 1) := by decide +kernel
theorem dX7_later_45 : decode cX7_later 45 = .ok (.ireturn, 1) := by decide +kernel
theorem dX7_lasts_0 : decode cX7_lasts 0 = .ok (.aload_n 0, 1) := by decide +kernel
theorem dX7_lasts_1 : decode cX7_lasts 1 = .ok (.iload_n 1, 1) := by decide +kernel
theorem dX7_lasts_2 : decode cX7_lasts 2 = .ok (.invokevirtual 146, 3) := by decide +kernel
theorem dX7_lasts_5 : decode cX7_lasts 5 = .ok (.ifCond .ne 5, 3) := by decide +kernel
theorem dX7_lasts_8 : decode cX7_lasts 8 = .ok (.iconst (-1), 1) := by decide +kernel
theorem dX7_lasts_9 : decode cX7_lasts 9 = .ok (.ireturn, 1) := by decide +kernel
theorem dX7_lasts_10 : decode cX7_lasts 10 = .ok (.aload_n 0, 1) := by decide +kernel
theorem dX7_lasts_11 : decode cX7_lasts 11 = .ok (.getfield 34, 3) := by decide +kernel
theorem dX7_lasts_14 : decode cX7_lasts 14 = .ok (.iconst 0, 1) := by decide +kernel
theorem dX7_lasts_15 : decode cX7_lasts 15 = .ok (.iaload, 1) := by decide +kernel
theorem dX7_lasts_16 : decode cX7_lasts 16 = .ok (.iload_n 1, 1) := by decide +kernel
theorem dX7_lasts_17 : decode cX7_lasts 17 = .ok (.invokestatic 119, 3) := by decide +kernel
theorem dX7_lasts_20 : decode cX7_lasts 20 = .ok (.ifCond .eq 6, 3) := by decide +kernel
theorem dX7_lasts_23 : decode cX7_lasts 23 = .ok (.bipush (-3), 2) := by decide +kernel
theorem dX7_lasts_25 : decode cX7_lasts 25 = .ok (.ireturn, 1) := by decide +kernel
theorem dX7_lasts_26 : decode cX7_lasts 26 = .ok (.aload_n 0, 1) := by decide +kernel
theorem dX7_lasts_27 : decode cX7_lasts 27 = .ok (.invokevirtual 174, 3) := by decide +kernel
theorem dX7_lasts_30 : decode cX7_lasts 30 = .ok (.iconst 1, 1) := by decide +kernel
theorem dX7_lasts_31 : decode cX7_lasts 31 = .ok (.istore_n 2, 1) := by decide +kernel
theorem dX7_lasts_32 : decode cX7_lasts 32 = .ok (.iload_n 2, 1) := by decide +kernel
theorem dX7_lasts_33 : decode cX7_lasts 33 = .ok (.bipush 21, 2) := by decide +kernel
theorem dX7_lasts_35 : decode cX7_lasts 35 = .ok (.if_icmp .ge 31, 3) := by decide +kernel
theorem dX7_lasts_38 : decode cX7_lasts 38 = .ok (.aload_n 0, 1) := by decide +kernel
theorem dX7_lasts_39 : decode cX7_lasts 39 = .ok (.iconst 1, 1) := by decide +kernel
theorem dX7_lasts_40 : decode cX7_lasts 40 = .ok (.invokevirtual 159, 3) := by decide +kernel
theorem dX7_lasts_43 : decode cX7_lasts 43 = .ok (.pop, 1) := by decide +kernel
theorem dX7_lasts_44 : decode cX7_lasts 44 = .ok (.aload_n 0, 1) := by decide +kernel
theorem dX7_lasts_45 : decode cX7_lasts 45 = .ok (.getfield 34, 3) := by decide +kernel
theorem dX7_lasts_48 : decode cX7_lasts 48 = .ok (.bipush 9, 2) := by decide +kernel
theorem dX7_lasts_50 : decode cX7_lasts 50 = .ok (.iaload, 1) := by decide +kernel
theorem dX7_lasts_51 : decode cX7_lasts 51 = .ok (.iload_n 1, 1) := by decide +kernel
theorem dX7_lasts_52 : decode cX7_lasts 52 = .ok (.invokestatic 119, 3) := by decide +kernel
theorem dX7_lasts_55 : decode cX7_lasts 55 = .ok (.ifCond .eq 5, 3) := by decide +kernel
theorem dX7_lasts_58 : decode cX7_lasts 58 = .ok (.iload_n 2, 1) := by decide +kernel
theorem dX7_lasts_59 : decode cX7_lasts 59 = .ok (.ireturn, 1) := by decide +kernel
theorem dX7_lasts_60 : decode cX7_lasts 60 = .ok (.iinc 2 1, 3) := by decide +kernel
theorem dX7_lasts_63 : decode cX7_lasts 63 = .ok (.goto (-31), 3) := by decide +kernel
theorem dX7_lasts_66 : decode cX7_lasts 66 = .ok (.bipush (-9), 2) := by decide +kernel
theorem dX7_lasts_68 : decode cX7_lasts 68 = .ok (.ireturn, 1) := by decide +kernel
theorem dX7_chain_0 : decode cX7_chain 0 = .ok (.aload_n 0, 1) := by decide +kernel
theorem dX7_chain_1 : decode cX7_chain 1 = .ok (.iload_n 1, 1) := by decide +kernel
theorem dX7_chain_2 : decode cX7_chain 2 = .ok (.invokevirtual 146, 3) := by decide +kernel
theorem dX7_chain_5 : decode cX7_chain 5 = .ok (.ifCond .ne 5, 3) := by decide +kernel
theorem dX7_chain_8 : decode cX7_chain 8 = .ok (.iconst (-1), 1) := by decide +kernel
theorem dX7_chain_9 : decode cX7_chain 9 = .ok (.ireturn, 1) := by decide +kernel
theorem dX7_chain_10 : decode cX7_chain 10 = .ok (.aload_n 0, 1) := by decide +kernel
theorem dX7_chain_11 : decode cX7_chain 11 = .ok (.getfield 34, 3) := by decide +kernel
theorem dX7_chain_14 : decode cX7_chain 14 = .ok (.iconst 0, 1) := by decide +kernel
theorem dX7_chain_15 : decode cX7_chain 15 = .ok (.iaload, 1) := by decide +kernel
theorem dX7_chain_16 : decode cX7_chain 16 = .ok (.iload_n 1, 1) := by decide +kernel
theorem dX7_chain_17 : decode cX7_chain 17 = .ok (.invokestatic 119, 3) := by decide +kernel
theorem dX7_chain_20 : decode cX7_chain 20 = .ok (.ifCond .eq 6, 3) := by decide +kernel
theorem dX7_chain_23 : decode cX7_chain 23 = .ok (.bipush (-3), 2) := by decide +kernel
theorem dX7_chain_25 : decode cX7_chain 25 = .ok (.ireturn, 1) := by decide +kernel
theorem dX7_chain_26 : decode cX7_chain 26 = .ok (.aload_n 0, 1) := by decide +kernel
theorem dX7_chain_27 : decode cX7_chain 27 = .ok (.invokevirtual 174, 3) := by decide +kernel
theorem dX7_chain_30 : decode cX7_chain 30 = .ok (.aload_n 0, 1) := by decide +kernel
theorem dX7_chain_31 : decode cX7_chain 31 = .ok (.getfield 34, 3) := by decide +kernel
theorem dX7_chain_34 : decode cX7_chain 34 = .ok (.bipush 9, 2) := by decide +kernel
theorem dX7_chain_36 : decode cX7_chain 36 = .ok (.dup2, 1) := by decide +kernel
theorem dX7_chain_37 : decode cX7_chain 37 = .ok (.iaload, 1) := by decide +kernel
theorem dX7_chain_38 : decode cX7_chain 38 = .ok (.iconst 1, 1) := by decide +kernel
theorem dX7_chain_39 : decode cX7_chain 39 = .ok (.iload_n 1, 1) := by decide +kernel
theorem dX7_chain_40 : decode cX7_chain 40 = .ok (.ishl, 1) := by decide +kernel
theorem dX7_chain_41 : decode cX7_chain 41 = .ok (.ior, 1) := by decide +kernel
theorem dX7_chain_42 : decode cX7_chain 42 = .ok (.iastore, 1) := by decide +kernel
theorem dX7_chain_43 : decode cX7_chain 43 = .ok (.aload_n 0, 1) := by decide +kernel
theorem dX7_chain_44 : decode cX7_chain 44 = .ok (.invokevirtual 140, 3) := by decide +kernel
theorem dX7_chain_47 : decode cX7_chain 47 = .ok (.aload_n 0, 1) := by decide +kernel
theorem dX7_chain_48 : decode cX7_chain 48 = .ok (.getfield 49, 3) := by decide +kernel
theorem dX7_chain_51 : decode cX7_chain 51 = .ok (.aload_n 0, 1) := by decide +kernel
theorem dX7_chain_52 : decode cX7_chain 52 = .ok (.getfield 7, 3) := by decide +kernel
theorem dX7_chain_55 : decode cX7_chain 55 = .ok (.iload_n 1, 1) := by decide +kernel
theorem dX7_chain_56 : decode cX7_chain 56 = .ok (.iaload, 1) := by decide +kernel
theorem dX7_chain_57 : decode cX7_chain 57 = .ok (.iconst 1, 1) := by decide +kernel
theorem dX7_chain_58 : decode cX7_chain 58 = .ok (.iastore, 1) := by decide +kernel
theorem dX7_chain_59 : decode cX7_chain 59 = .ok (.aload_n 0, 1) := by decide +kernel
theorem dX7_chain_60 : decode cX7_chain 60 = .ok (.getfield 49, 3) := by decide +kernel
theorem dX7_chain_63 : decode cX7_chain 63 = .ok (.aload_n 0, 1) := by decide +kernel
theorem dX7_chain_64 : decode cX7_chain 64 = .ok (.getfield 13, 3) := by decide +kernel
theorem dX7_chain_67 : decode cX7_chain 67 = .ok (.iload_n 1, 1) := by decide +kernel
theorem dX7_chain_68 : decode cX7_chain 68 = .ok (.iaload, 1) := by decide +kernel
theorem dX7_chain_69 : decode cX7_chain 69 = .ok (.iconst 1, 1) := by decide +kernel
theorem dX7_chain_70 : decode cX7_chain 70 = .ok (.iastore, 1) := by decide +kernel
theorem dX7_chain_71 : decode cX7_chain 71 = .ok (.aload_n 0, 1) := by decide +kernel
theorem dX7_chain_72 : decode cX7_chain 72 = .ok (.iconst 1, 1) := by decide +kernel
theorem dX7_chain_73 : decode cX7_chain 73 = .ok (.invokevirtual 143, 3) := by decide +kernel
theorem dX7_chain_76 : decode cX7_chain 76 = .ok (.pop, 1) := by decide +kernel
theorem dX7_chain_77 : decode cX7_chain 77 = .ok (.aload_n 0, 1) := by decide +kernel
theorem dX7_chain_78 : decode cX7_chain 78 = .ok (.getfield 34, 3) := by decide +kernel
theorem dX7_chain_81 : decode cX7_chain 81 = .ok (.bipush 9, 2) := by decide +kernel
theorem dX7_chain_83 : decode cX7_chain 83 = .ok (.iaload, 1) := by decide +kernel
theorem dX7_chain_84 : decode cX7_chain 84 = .ok (.aload_n 0, 1) := by decide +kernel
theorem dX7_chain_85 : decode cX7_chain 85 = .ok (.getfield 34, 3) := by decide +kernel
theorem dX7_chain_88 : decode cX7_chain 88 = .ok (.iconst 0, 1) := by decide +kernel
theorem dX7_chain_89 : decode cX7_chain 89 = .ok (.iaload, 1) := by decide +kernel
theorem dX7_chain_90 : decode cX7_chain 90 = .ok (.iconst (-1), 1) := by decide +kernel
theorem dX7_chain_91 : decode cX7_chain 91 = .ok (.ixor, 1) := by decide +kernel
theorem dX7_chain_92 : decode cX7_chain 92 = .ok (.iand, 1) := by decide +kernel
theorem dX7_chain_93 : decode cX7_chain 93 = .ok (.ireturn, 1) := by decide +kernel
theorem dX7_cuts_0 : decode cX7_cuts 0 = .ok (.iload_n 1, 1) := by decide +kernel
theorem dX7_cuts_1 : decode cX7_cuts 1 = .ok (.invokestatic 150, 3) := by decide +kernel
theorem dX7_cuts_4 : decode cX7_cuts 4 = .ok (.ifCond .eq 10, 3) := by decide +kernel
theorem dX7_cuts_7 : decode cX7_cuts 7 = .ok (.iload_n 2, 1) := by decide +kernel
theorem dX7_cuts_8 : decode cX7_cuts 8 = .ok (.invokestatic 150, 3) := by decide +kernel
theorem dX7_cuts_11 : decode cX7_cuts 11 = .ok (.ifCond .ne 5, 3) := by decide +kernel
theorem dX7_cuts_14 : decode cX7_cuts 14 = .ok (.iconst (-1), 1) := by decide +kernel
theorem dX7_cuts_15 : decode cX7_cuts 15 = .ok (.ireturn, 1) := by decide +kernel
theorem dX7_cuts_16 : decode cX7_cuts 16 = .ok (.iload_n 1, 1) := by decide +kernel
theorem dX7_cuts_17 : decode cX7_cuts 17 = .ok (.iload_n 2, 1) := by decide +kernel
theorem dX7_cuts_18 : decode cX7_cuts 18 = .ok (.if_icmp .ne 6, 3) := by decide +kernel
theorem dX7_cuts_21 : decode cX7_cuts 21 = .ok (.bipush (-2), 2) := by decide +kernel
theorem dX7_cuts_23 : decode cX7_cuts 23 = .ok (.ireturn, 1) := by decide +kernel
theorem dX7_cuts_24 : decode cX7_cuts 24 = .ok (.aload_n 0, 1) := by decide +kernel
theorem dX7_cuts_25 : decode cX7_cuts 25 = .ok (.invokevirtual 177, 3) := by decide +kernel
theorem dX7_cuts_28 : decode cX7_cuts 28 = .ok (.aload_n 0, 1) := by decide +kernel
theorem dX7_cuts_29 : decode cX7_cuts 29 = .ok (.getfield 34, 3) := by decide +kernel
theorem dX7_cuts_32 : decode cX7_cuts 32 = .ok (.iconst 0, 1) := by decide +kernel
theorem dX7_cuts_33 : decode cX7_cuts 33 = .ok (.iaload, 1) := by decide +kernel
theorem dX7_cuts_34 : decode cX7_cuts 34 = .ok (.iconst (-1), 1) := by decide +kernel
theorem dX7_cuts_35 : decode cX7_cuts 35 = .ok (.ixor, 1) := by decide +kernel
theorem dX7_cuts_36 : decode cX7_cuts 36 = .ok (.iand, 1) := by decide +kernel
theorem dX7_cuts_37 : decode cX7_cuts 37 = .ok (.istore_n 3, 1) := by decide +kernel
theorem dX7_cuts_38 : decode cX7_cuts 38 = .ok (.iconst 0, 1) := by decide +kernel
theorem dX7_cuts_39 : decode cX7_cuts 39 = .ok (.istore 4, 2) := by decide +kernel
theorem dX7_cuts_41 : decode cX7_cuts 41 = .ok (.iload 4, 2) := by decide +kernel
theorem dX7_cuts_43 : decode cX7_cuts 43 = .ok (.iconst 1, 1) := by decide +kernel
theorem dX7_cuts_44 : decode cX7_cuts 44 = .ok (.aload_n 0, 1) := by decide +kernel
theorem dX7_cuts_45 : decode cX7_cuts 45 = .ok (.getfield 105, 3) := by decide +kernel
theorem dX7_cuts_48 : decode cX7_cuts 48 = .ok (.ishl, 1) := by decide +kernel
theorem dX7_cuts_49 : decode cX7_cuts 49 = .ok (.if_icmp .ge 88, 3) := by decide +kernel
theorem dX7_cuts_52 : decode cX7_cuts 52 = .ok (.iload 4, 2) := by decide +kernel
theorem dX7_cuts_54 : decode cX7_cuts 54 = .ok (.invokestatic 137, 3) := by decide +kernel
theorem dX7_cuts_57 : decode cX7_cuts 57 = .ok (.iload_n 3, 1) := by decide +kernel
theorem dX7_cuts_58 : decode cX7_cuts 58 = .ok (.invokestatic 137, 3) := by decide +kernel
theorem dX7_cuts_61 : decode cX7_cuts 61 = .ok (.if_icmp .lt 21, 3) := by decide +kernel
theorem dX7_cuts_64 : decode cX7_cuts 64 = .ok (.iload 4, 2) := by decide +kernel
theorem dX7_cuts_66 : decode cX7_cuts 66 = .ok (.invokestatic 137, 3) := by decide +kernel
theorem dX7_cuts_69 : decode cX7_cuts 69 = .ok (.iload_n 3, 1) := by decide +kernel
theorem dX7_cuts_70 : decode cX7_cuts 70 = .ok (.invokestatic 137, 3) := by decide +kernel
theorem dX7_cuts_73 : decode cX7_cuts 73 = .ok (.if_icmp .ne 13, 3) := by decide +kernel
theorem dX7_cuts_76 : decode cX7_cuts 76 = .ok (.iload 4, 2) := by decide +kernel
theorem dX7_cuts_78 : decode cX7_cuts 78 = .ok (.iload_n 3, 1) := by decide +kernel
theorem dX7_cuts_79 : decode cX7_cuts 79 = .ok (.if_icmp .ge 7, 3) := by decide +kernel
theorem dX7_cuts_82 : decode cX7_cuts 82 = .ok (.iconst 1, 1) := by decide +kernel
theorem dX7_cuts_83 : decode cX7_cuts 83 = .ok (.goto 4, 3) := by decide +kernel
theorem dX7_cuts_86 : decode cX7_cuts 86 = .ok (.iconst 0, 1) := by decide +kernel
theorem dX7_cuts_87 : decode cX7_cuts 87 = .ok (.istore 5, 2) := by decide +kernel
theorem dX7_cuts_89 : decode cX7_cuts 89 = .ok (.iload 5, 2) := by decide +kernel
theorem dX7_cuts_91 : decode cX7_cuts 91 = .ok (.ifCond .eq 38, 3) := by decide +kernel
theorem dX7_cuts_94 : decode cX7_cuts 94 = .ok (.iload 4, 2) := by decide +kernel
theorem dX7_cuts_96 : decode cX7_cuts 96 = .ok (.aload_n 0, 1) := by decide +kernel
theorem dX7_cuts_97 : decode cX7_cuts 97 = .ok (.getfield 34, 3) := by decide +kernel
theorem dX7_cuts_100 : decode cX7_cuts 100 = .ok (.iconst 0, 1) := by decide +kernel
theorem dX7_cuts_101 : decode cX7_cuts 101 = .ok (.iaload, 1) := by decide +kernel
theorem dX7_cuts_102 : decode cX7_cuts 102 = .ok (.iand, 1) := by decide +kernel
theorem dX7_cuts_103 : decode cX7_cuts 103 = .ok (.ifCond .ne 26, 3) := by decide +kernel
theorem dX7_cuts_106 : decode cX7_cuts 106 = .ok (.aload_n 0, 1) := by decide +kernel
theorem dX7_cuts_107 : decode cX7_cuts 107 = .ok (.iload_n 1, 1) := by decide +kernel
theorem dX7_cuts_108 : decode cX7_cuts 108 = .ok (.iload_n 2, 1) := by decide +kernel
theorem dX7_cuts_109 : decode cX7_cuts 109 = .ok (.aload_n 0, 1) := by decide +kernel
theorem dX7_cuts_110 : decode cX7_cuts 110 = .ok (.getfield 34, 3) := by decide +kernel
theorem dX7_cuts_113 : decode cX7_cuts 113 = .ok (.iconst 0, 1) := by decide +kernel
theorem dX7_cuts_114 : decode cX7_cuts 114 = .ok (.iaload, 1) := by decide +kernel
theorem dX7_cuts_115 : decode cX7_cuts 115 = .ok (.iload 4, 2) := by decide +kernel
theorem dX7_cuts_117 : decode cX7_cuts 117 = .ok (.ior, 1) := by decide +kernel
theorem dX7_cuts_118 : decode cX7_cuts 118 = .ok (.invokevirtual 126, 3) := by decide +kernel
theorem dX7_cuts_121 : decode cX7_cuts 121 = .ok (.ifCond .ne 8, 3) := by decide +kernel
theorem dX7_cuts_124 : decode cX7_cuts 124 = .ok (.iload 4, 2) := by decide +kernel
theorem dX7_cuts_126 : decode cX7_cuts 126 = .ok (.goto 4, 3) := by decide +kernel
theorem dX7_cuts_129 : decode cX7_cuts 129 = .ok (.iload_n 3, 1) := by decide +kernel
theorem dX7_cuts_130 : decode cX7_cuts 130 = .ok (.istore_n 3, 1) := by decide +kernel
theorem dX7_cuts_131 : decode cX7_cuts 131 = .ok (.iinc 4 1, 3) := by decide +kernel
theorem dX7_cuts_134 : decode cX7_cuts 134 = .ok (.goto (-93), 3) := by decide +kernel
theorem dX7_cuts_137 : decode cX7_cuts 137 = .ok (.iload_n 3, 1) := by decide +kernel
theorem dX7_cuts_138 : decode cX7_cuts 138 = .ok (.ireturn, 1) := by decide +kernel
theorem dX7_parts_0 : decode cX7_parts 0 = .ok (.iload_n 1, 1) := by decide +kernel
theorem dX7_parts_1 : decode cX7_parts 1 = .ok (.invokestatic 150, 3) := by decide +kernel
theorem dX7_parts_4 : decode cX7_parts 4 = .ok (.ifCond .eq 10, 3) := by decide +kernel
theorem dX7_parts_7 : decode cX7_parts 7 = .ok (.iload_n 2, 1) := by decide +kernel
theorem dX7_parts_8 : decode cX7_parts 8 = .ok (.invokestatic 150, 3) := by decide +kernel
theorem dX7_parts_11 : decode cX7_parts 11 = .ok (.ifCond .ne 5, 3) := by decide +kernel
theorem dX7_parts_14 : decode cX7_parts 14 = .ok (.iconst (-1), 1) := by decide +kernel
theorem dX7_parts_15 : decode cX7_parts 15 = .ok (.ireturn, 1) := by decide +kernel
theorem dX7_parts_16 : decode cX7_parts 16 = .ok (.iload_n 1, 1) := by decide +kernel
theorem dX7_parts_17 : decode cX7_parts 17 = .ok (.iload_n 2, 1) := by decide +kernel
theorem dX7_parts_18 : decode cX7_parts 18 = .ok (.if_icmp .eq 13, 3) := by decide +kernel
theorem dX7_parts_21 : decode cX7_parts 21 = .ok (.iload_n 3, 1) := by decide +kernel
theorem dX7_parts_22 : decode cX7_parts 22 = .ok (.i2l, 1) := by decide +kernel
theorem dX7_parts_23 : decode cX7_parts 23 = .ok (.lconst 0, 1) := by decide +kernel
theorem dX7_parts_24 : decode cX7_parts 24 = .ok (.lconst 1, 1) := by decide +kernel
theorem dX7_parts_25 : decode cX7_parts 25 = .ok (.invokestatic 70, 3) := by decide +kernel
theorem dX7_parts_28 : decode cX7_parts 28 = .ok (.ifCond .ne 6, 3) := by decide +kernel
theorem dX7_parts_31 : decode cX7_parts 31 = .ok (.bipush (-2), 2) := by decide +kernel
theorem dX7_parts_33 : decode cX7_parts 33 = .ok (.ireturn, 1) := by decide +kernel
theorem dX7_parts_34 : decode cX7_parts 34 = .ok (.aload_n 0, 1) := by decide +kernel
theorem dX7_parts_35 : decode cX7_parts 35 = .ok (.iload_n 1, 1) := by decide +kernel
theorem dX7_parts_36 : decode cX7_parts 36 = .ok (.iload_n 2, 1) := by decide +kernel
theorem dX7_parts_37 : decode cX7_parts 37 = .ok (.aload_n 0, 1) := by decide +kernel
theorem dX7_parts_38 : decode cX7_parts 38 = .ok (.getfield 34, 3) := by decide +kernel
theorem dX7_parts_41 : decode cX7_parts 41 = .ok (.iconst 0, 1) := by decide +kernel
theorem dX7_parts_42 : decode cX7_parts 42 = .ok (.iaload, 1) := by decide +kernel
theorem dX7_parts_43 : decode cX7_parts 43 = .ok (.invokevirtual 126, 3) := by decide +kernel
theorem dX7_parts_46 : decode cX7_parts 46 = .ok (.ifCond .ne 14, 3) := by decide +kernel
theorem dX7_parts_49 : decode cX7_parts 49 = .ok (.iload_n 3, 1) := by decide +kernel
theorem dX7_parts_50 : decode cX7_parts 50 = .ok (.ifCond .ne 7, 3) := by decide +kernel
theorem dX7_parts_53 : decode cX7_parts 53 = .ok (.iconst 0, 1) := by decide +kernel
theorem dX7_parts_54 : decode cX7_parts 54 = .ok (.goto 5, 3) := by decide +kernel
theorem dX7_parts_57 : decode cX7_parts 57 = .ok (.bipush (-9), 2) := by decide +kernel
theorem dX7_parts_59 : decode cX7_parts 59 = .ok (.ireturn, 1) := by decide +kernel
theorem dX7_parts_60 : decode cX7_parts 60 = .ok (.iconst 1, 1) := by decide +kernel
theorem dX7_parts_61 : decode cX7_parts 61 = .ok (.istore 4, 2) := by decide +kernel
theorem dX7_parts_63 : decode cX7_parts 63 = .ok (.iload 4, 2) := by decide +kernel
theorem dX7_parts_65 : decode cX7_parts 65 = .ok (.bipush 10, 2) := by decide +kernel
theorem dX7_parts_67 : decode cX7_parts 67 = .ok (.if_icmp .ge 67, 3) := by decide +kernel
theorem dX7_parts_70 : decode cX7_parts 70 = .ok (.iconst 0, 1) := by decide +kernel
theorem dX7_parts_71 : decode cX7_parts 71 = .ok (.istore 5, 2) := by decide +kernel
theorem dX7_parts_73 : decode cX7_parts 73 = .ok (.iload 5, 2) := by decide +kernel
theorem dX7_parts_75 : decode cX7_parts 75 = .ok (.bipush 6, 2) := by decide +kernel
theorem dX7_parts_77 : decode cX7_parts 77 = .ok (.if_icmp .ge 51, 3) := by decide +kernel
theorem dX7_parts_80 : decode cX7_parts 80 = .ok (.aload_n 0, 1) := by decide +kernel
theorem dX7_parts_81 : decode cX7_parts 81 = .ok (.invokevirtual 174, 3) := by decide +kernel
theorem dX7_parts_84 : decode cX7_parts 84 = .ok (.aload_n 0, 1) := by decide +kernel
theorem dX7_parts_85 : decode cX7_parts 85 = .ok (.iconst 1, 1) := by decide +kernel
theorem dX7_parts_86 : decode cX7_parts 86 = .ok (.iload 5, 2) := by decide +kernel
theorem dX7_parts_88 : decode cX7_parts 88 = .ok (.iload 4, 2) := by decide +kernel
theorem dX7_parts_90 : decode cX7_parts 90 = .ok (.invokevirtual 164, 3) := by decide +kernel
theorem dX7_parts_93 : decode cX7_parts 93 = .ok (.pop, 1) := by decide +kernel
theorem dX7_parts_94 : decode cX7_parts 94 = .ok (.aload_n 0, 1) := by decide +kernel
theorem dX7_parts_95 : decode cX7_parts 95 = .ok (.iload_n 1, 1) := by decide +kernel
theorem dX7_parts_96 : decode cX7_parts 96 = .ok (.iload_n 2, 1) := by decide +kernel
theorem dX7_parts_97 : decode cX7_parts 97 = .ok (.aload_n 0, 1) := by decide +kernel
theorem dX7_parts_98 : decode cX7_parts 98 = .ok (.getfield 34, 3) := by decide +kernel
theorem dX7_parts_101 : decode cX7_parts 101 = .ok (.bipush 9, 2) := by decide +kernel
theorem dX7_parts_103 : decode cX7_parts 103 = .ok (.iaload, 1) := by decide +kernel
theorem dX7_parts_104 : decode cX7_parts 104 = .ok (.invokevirtual 126, 3) := by decide +kernel
theorem dX7_parts_107 : decode cX7_parts 107 = .ok (.ifCond .ne 15, 3) := by decide +kernel
theorem dX7_parts_110 : decode cX7_parts 110 = .ok (.iload_n 3, 1) := by decide +kernel
theorem dX7_parts_111 : decode cX7_parts 111 = .ok (.ifCond .ne 8, 3) := by decide +kernel
theorem dX7_parts_114 : decode cX7_parts 114 = .ok (.iload 4, 2) := by decide +kernel
theorem dX7_parts_116 : decode cX7_parts 116 = .ok (.goto 5, 3) := by decide +kernel
theorem dX7_parts_119 : decode cX7_parts 119 = .ok (.iload 5, 2) := by decide +kernel
theorem dX7_parts_121 : decode cX7_parts 121 = .ok (.ireturn, 1) := by decide +kernel
theorem dX7_parts_122 : decode cX7_parts 122 = .ok (.iinc 5 1, 3) := by decide +kernel
theorem dX7_parts_125 : decode cX7_parts 125 = .ok (.goto (-52), 3) := by decide +kernel
theorem dX7_parts_128 : decode cX7_parts 128 = .ok (.iinc 4 1, 3) := by decide +kernel
theorem dX7_parts_131 : decode cX7_parts 131 = .ok (.goto (-68), 3) := by decide +kernel
theorem dX7_parts_134 : decode cX7_parts 134 = .ok (.bipush (-9), 2) := by decide +kernel
theorem dX7_parts_136 : decode cX7_parts 136 = .ok (.ireturn, 1) := by decide +kernel
theorem dX7_letsGo_0 : decode cX7_letsGo 0 = .ok (.iload_n 1, 1) := by decide +kernel
theorem dX7_letsGo_1 : decode cX7_letsGo 1 = .ok (.i2l, 1) := by decide +kernel
theorem dX7_letsGo_2 : decode cX7_letsGo 2 = .ok (.lconst 0, 1) := by decide +kernel
theorem dX7_letsGo_3 : decode cX7_letsGo 3 = .ok (.iconst 1, 1) := by decide +kernel
theorem dX7_letsGo_4 : decode cX7_letsGo 4 = .ok (.aload_n 0, 1) := by decide +kernel
theorem dX7_letsGo_5 : decode cX7_letsGo 5 = .ok (.getfield 111, 3) := by decide +kernel
theorem dX7_letsGo_8 : decode cX7_letsGo 8 = .ok (.ishl, 1) := by decide +kernel
theorem dX7_letsGo_9 : decode cX7_letsGo 9 = .ok (.iconst 1, 1) := by decide +kernel
theorem dX7_letsGo_10 : decode cX7_letsGo 10 = .ok (.isub, 1) := by decide +kernel
theorem dX7_letsGo_11 : decode cX7_letsGo 11 = .ok (.i2l, 1) := by decide +kernel
theorem dX7_letsGo_12 : decode cX7_letsGo 12 = .ok (.invokestatic 70, 3) := by decide +kernel
theorem dX7_letsGo_15 : decode cX7_letsGo 15 = .ok (.ifCond .ne 6, 3) := by decide +kernel
theorem dX7_letsGo_18 : decode cX7_letsGo 18 = .ok (.bipush (-2), 2) := by decide +kernel
theorem dX7_letsGo_20 : decode cX7_letsGo 20 = .ok (.ireturn, 1) := by decide +kernel
theorem dX7_letsGo_21 : decode cX7_letsGo 21 = .ok (.aload_n 0, 1) := by decide +kernel
theorem dX7_letsGo_22 : decode cX7_letsGo 22 = .ok (.invokevirtual 177, 3) := by decide +kernel
theorem dX7_letsGo_25 : decode cX7_letsGo 25 = .ok (.aload_n 0, 1) := by decide +kernel
theorem dX7_letsGo_26 : decode cX7_letsGo 26 = .ok (.getfield 34, 3) := by decide +kernel
theorem dX7_letsGo_29 : decode cX7_letsGo 29 = .ok (.iconst 0, 1) := by decide +kernel
theorem dX7_letsGo_30 : decode cX7_letsGo 30 = .ok (.iaload, 1) := by decide +kernel
theorem dX7_letsGo_31 : decode cX7_letsGo 31 = .ok (.iconst (-1), 1) := by decide +kernel
theorem dX7_letsGo_32 : decode cX7_letsGo 32 = .ok (.ixor, 1) := by decide +kernel
theorem dX7_letsGo_33 : decode cX7_letsGo 33 = .ok (.iand, 1) := by decide +kernel
theorem dX7_letsGo_34 : decode cX7_letsGo 34 = .ok (.istore_n 2, 1) := by decide +kernel
theorem dX7_letsGo_35 : decode cX7_letsGo 35 = .ok (.iconst 0, 1) := by decide +kernel
theorem dX7_letsGo_36 : decode cX7_letsGo 36 = .ok (.istore_n 3, 1) := by decide +kernel
theorem dX7_letsGo_37 : decode cX7_letsGo 37 = .ok (.iload_n 3, 1) := by decide +kernel
theorem dX7_letsGo_38 : decode cX7_letsGo 38 = .ok (.iconst 1, 1) := by decide +kernel
theorem dX7_letsGo_39 : decode cX7_letsGo 39 = .ok (.aload_n 0, 1) := by decide +kernel
theorem dX7_letsGo_40 : decode cX7_letsGo 40 = .ok (.getfield 105, 3) := by decide +kernel
theorem dX7_letsGo_43 : decode cX7_letsGo 43 = .ok (.ishl, 1) := by decide +kernel
theorem dX7_letsGo_44 : decode cX7_letsGo 44 = .ok (.if_icmp .ge 84, 3) := by decide +kernel
theorem dX7_letsGo_47 : decode cX7_letsGo 47 = .ok (.iload_n 3, 1) := by decide +kernel
theorem dX7_letsGo_48 : decode cX7_letsGo 48 = .ok (.invokestatic 137, 3) := by decide +kernel
theorem dX7_letsGo_51 : decode cX7_letsGo 51 = .ok (.iload_n 2, 1) := by decide +kernel
theorem dX7_letsGo_52 : decode cX7_letsGo 52 = .ok (.invokestatic 137, 3) := by decide +kernel
theorem dX7_letsGo_55 : decode cX7_letsGo 55 = .ok (.if_icmp .lt 19, 3) := by decide +kernel
theorem dX7_letsGo_58 : decode cX7_letsGo 58 = .ok (.iload_n 3, 1) := by decide +kernel
theorem dX7_letsGo_59 : decode cX7_letsGo 59 = .ok (.invokestatic 137, 3) := by decide +kernel
theorem dX7_letsGo_62 : decode cX7_letsGo 62 = .ok (.iload_n 2, 1) := by decide +kernel
theorem dX7_letsGo_63 : decode cX7_letsGo 63 = .ok (.invokestatic 137, 3) := by decide +kernel
theorem dX7_letsGo_66 : decode cX7_letsGo 66 = .ok (.if_icmp .ne 12, 3) := by decide +kernel
theorem dX7_letsGo_69 : decode cX7_letsGo 69 = .ok (.iload_n 3, 1) := by decide +kernel
theorem dX7_letsGo_70 : decode cX7_letsGo 70 = .ok (.iload_n 2, 1) := by decide +kernel
theorem dX7_letsGo_71 : decode cX7_letsGo 71 = .ok (.if_icmp .ge 7, 3) := by decide +kernel
theorem dX7_letsGo_74 : decode cX7_letsGo 74 = .ok (.iconst 1, 1) := by decide +kernel
theorem dX7_letsGo_75 : decode cX7_letsGo 75 = .ok (.goto 4, 3) := by decide +kernel
theorem dX7_letsGo_78 : decode cX7_letsGo 78 = .ok (.iconst 0, 1) := by decide +kernel
theorem dX7_letsGo_79 : decode cX7_letsGo 79 = .ok (.istore 4, 2) := by decide +kernel
theorem dX7_letsGo_81 : decode cX7_letsGo 81 = .ok (.iload 4, 2) := by decide +kernel
theorem dX7_letsGo_83 : decode cX7_letsGo 83 = .ok (.ifCond .eq 37, 3) := by decide +kernel
theorem dX7_letsGo_86 : decode cX7_letsGo 86 = .ok (.iload_n 3, 1) := by decide +kernel
theorem dX7_letsGo_87 : decode cX7_letsGo 87 = .ok (.aload_n 0, 1) := by decide +kernel
theorem dX7_letsGo_88 : decode cX7_letsGo 88 = .ok (.getfield 34, 3) := by decide +kernel
theorem dX7_letsGo_91 : decode cX7_letsGo 91 = .ok (.iconst 0, 1) := by decide +kernel
theorem dX7_letsGo_92 : decode cX7_letsGo 92 = .ok (.iaload, 1) := by decide +kernel
theorem dX7_letsGo_93 : decode cX7_letsGo 93 = .ok (.iand, 1) := by decide +kernel
theorem dX7_letsGo_94 : decode cX7_letsGo 94 = .ok (.ifCond .ne 26, 3) := by decide +kernel
theorem dX7_letsGo_97 : decode cX7_letsGo 97 = .ok (.iload_n 1, 1) := by decide +kernel
theorem dX7_letsGo_98 : decode cX7_letsGo 98 = .ok (.aload_n 0, 1) := by decide +kernel
theorem dX7_letsGo_99 : decode cX7_letsGo 99 = .ok (.aload_n 0, 1) := by decide +kernel
theorem dX7_letsGo_100 : decode cX7_letsGo 100 = .ok (.getfield 34, 3) := by decide +kernel
theorem dX7_letsGo_103 : decode cX7_letsGo 103 = .ok (.iconst 0, 1) := by decide +kernel
theorem dX7_letsGo_104 : decode cX7_letsGo 104 = .ok (.iaload, 1) := by decide +kernel
theorem dX7_letsGo_105 : decode cX7_letsGo 105 = .ok (.iload_n 3, 1) := by decide +kernel
theorem dX7_letsGo_106 : decode cX7_letsGo 106 = .ok (.ior, 1) := by decide +kernel
theorem dX7_letsGo_107 : decode cX7_letsGo 107 = .ok (.invokevirtual 180, 3) := by decide +kernel
theorem dX7_letsGo_110 : decode cX7_letsGo 110 = .ok (.iconst (-1), 1) := by decide +kernel
theorem dX7_letsGo_111 : decode cX7_letsGo 111 = .ok (.ixor, 1) := by decide +kernel
theorem dX7_letsGo_112 : decode cX7_letsGo 112 = .ok (.iand, 1) := by decide +kernel
theorem dX7_letsGo_113 : decode cX7_letsGo 113 = .ok (.ifCond .ne 7, 3) := by decide +kernel
theorem dX7_letsGo_116 : decode cX7_letsGo 116 = .ok (.iload_n 3, 1) := by decide +kernel
theorem dX7_letsGo_117 : decode cX7_letsGo 117 = .ok (.goto 4, 3) := by decide +kernel
theorem dX7_letsGo_120 : decode cX7_letsGo 120 = .ok (.iload_n 2, 1) := by decide +kernel
theorem dX7_letsGo_121 : decode cX7_letsGo 121 = .ok (.istore_n 2, 1) := by decide +kernel
theorem dX7_letsGo_122 : decode cX7_letsGo 122 = .ok (.iinc 3 1, 3) := by decide +kernel
theorem dX7_letsGo_125 : decode cX7_letsGo 125 = .ok (.goto (-88), 3) := by decide +kernel
theorem dX7_letsGo_128 : decode cX7_letsGo 128 = .ok (.iload_n 2, 1) := by decide +kernel
theorem dX7_letsGo_129 : decode cX7_letsGo 129 = .ok (.ireturn, 1) := by decide +kernel
theorem dX7_tryThing_0 : decode cX7_tryThing 0 = .ok (.iload_n 1, 1) := by decide +kernel
theorem dX7_tryThing_1 : decode cX7_tryThing 1 = .ok (.tableswitch 278 0 5 #[39, 59, 93, 140, 198, 234], 39) := by decide +kernel
theorem dX7_tryThing_40 : decode cX7_tryThing 40 = .ok (.aload_n 0, 1) := by decide +kernel
theorem dX7_tryThing_41 : decode cX7_tryThing 41 = .ok (.iconst 1, 1) := by decide +kernel
theorem dX7_tryThing_42 : decode cX7_tryThing 42 = .ok (.invokevirtual 159, 3) := by decide +kernel
theorem dX7_tryThing_45 : decode cX7_tryThing 45 = .ok (.pop, 1) := by decide +kernel
theorem dX7_tryThing_46 : decode cX7_tryThing 46 = .ok (.iload_n 2, 1) := by decide +kernel
theorem dX7_tryThing_47 : decode cX7_tryThing 47 = .ok (.ifCond .ne 11, 3) := by decide +kernel
theorem dX7_tryThing_50 : decode cX7_tryThing 50 = .ok (.iload_n 3, 1) := by decide +kernel
theorem dX7_tryThing_51 : decode cX7_tryThing 51 = .ok (.ifCond .ne 7, 3) := by decide +kernel
theorem dX7_tryThing_54 : decode cX7_tryThing 54 = .ok (.iconst 1, 1) := by decide +kernel
theorem dX7_tryThing_55 : decode cX7_tryThing 55 = .ok (.goto 4, 3) := by decide +kernel
theorem dX7_tryThing_58 : decode cX7_tryThing 58 = .ok (.iconst 0, 1) := by decide +kernel
theorem dX7_tryThing_59 : decode cX7_tryThing 59 = .ok (.ireturn, 1) := by decide +kernel
theorem dX7_tryThing_60 : decode cX7_tryThing 60 = .ok (.iload_n 2, 1) := by decide +kernel
theorem dX7_tryThing_61 : decode cX7_tryThing 61 = .ok (.invokestatic 150, 3) := by decide +kernel
theorem dX7_tryThing_64 : decode cX7_tryThing 64 = .ok (.ifCond .eq 11, 3) := by decide +kernel
theorem dX7_tryThing_67 : decode cX7_tryThing 67 = .ok (.iload_n 3, 1) := by decide +kernel
theorem dX7_tryThing_68 : decode cX7_tryThing 68 = .ok (.ifCond .le 7, 3) := by decide +kernel
theorem dX7_tryThing_71 : decode cX7_tryThing 71 = .ok (.iconst 1, 1) := by decide +kernel
theorem dX7_tryThing_72 : decode cX7_tryThing 72 = .ok (.goto 4, 3) := by decide +kernel
theorem dX7_tryThing_75 : decode cX7_tryThing 75 = .ok (.iconst 0, 1) := by decide +kernel
theorem dX7_tryThing_76 : decode cX7_tryThing 76 = .ok (.istore 4, 2) := by decide +kernel
theorem dX7_tryThing_78 : decode cX7_tryThing 78 = .ok (.iload 4, 2) := by decide +kernel
theorem dX7_tryThing_80 : decode cX7_tryThing 80 = .ok (.ifCond .eq 11, 3) := by decide +kernel
theorem dX7_tryThing_83 : decode cX7_tryThing 83 = .ok (.aload_n 0, 1) := by decide +kernel
theorem dX7_tryThing_84 : decode cX7_tryThing 84 = .ok (.iconst 1, 1) := by decide +kernel
theorem dX7_tryThing_85 : decode cX7_tryThing 85 = .ok (.iload_n 2, 1) := by decide +kernel
theorem dX7_tryThing_86 : decode cX7_tryThing 86 = .ok (.iload_n 3, 1) := by decide +kernel
theorem dX7_tryThing_87 : decode cX7_tryThing 87 = .ok (.invokevirtual 164, 3) := by decide +kernel
theorem dX7_tryThing_90 : decode cX7_tryThing 90 = .ok (.pop, 1) := by decide +kernel
theorem dX7_tryThing_91 : decode cX7_tryThing 91 = .ok (.iload 4, 2) := by decide +kernel
theorem dX7_tryThing_93 : decode cX7_tryThing 93 = .ok (.ireturn, 1) := by decide +kernel
theorem dX7_tryThing_94 : decode cX7_tryThing 94 = .ok (.iload_n 2, 1) := by decide +kernel
theorem dX7_tryThing_95 : decode cX7_tryThing 95 = .ok (.ifCond .ne 29, 3) := by decide +kernel
theorem dX7_tryThing_98 : decode cX7_tryThing 98 = .ok (.aload_n 0, 1) := by decide +kernel
theorem dX7_tryThing_99 : decode cX7_tryThing 99 = .ok (.iload_n 3, 1) := by decide +kernel
theorem dX7_tryThing_100 : decode cX7_tryThing 100 = .ok (.invokevirtual 146, 3) := by decide +kernel
theorem dX7_tryThing_103 : decode cX7_tryThing 103 = .ok (.ifCond .eq 21, 3) := by decide +kernel
theorem dX7_tryThing_106 : decode cX7_tryThing 106 = .ok (.aload_n 0, 1) := by decide +kernel
theorem dX7_tryThing_107 : decode cX7_tryThing 107 = .ok (.getfield 34, 3) := by decide +kernel
theorem dX7_tryThing_110 : decode cX7_tryThing 110 = .ok (.bipush 9, 2) := by decide +kernel
theorem dX7_tryThing_112 : decode cX7_tryThing 112 = .ok (.iaload, 1) := by decide +kernel
theorem dX7_tryThing_113 : decode cX7_tryThing 113 = .ok (.iload_n 3, 1) := by decide +kernel
theorem dX7_tryThing_114 : decode cX7_tryThing 114 = .ok (.invokestatic 119, 3) := by decide +kernel
theorem dX7_tryThing_117 : decode cX7_tryThing 117 = .ok (.ifCond .eq 7, 3) := by decide +kernel
theorem dX7_tryThing_120 : decode cX7_tryThing 120 = .ok (.iconst 1, 1) := by decide +kernel
theorem dX7_tryThing_121 : decode cX7_tryThing 121 = .ok (.goto 4, 3) := by decide +kernel
theorem dX7_tryThing_124 : decode cX7_tryThing 124 = .ok (.iconst 0, 1) := by decide +kernel
theorem dX7_tryThing_125 : decode cX7_tryThing 125 = .ok (.istore 5, 2) := by decide +kernel
theorem dX7_tryThing_127 : decode cX7_tryThing 127 = .ok (.iload 5, 2) := by decide +kernel
theorem dX7_tryThing_129 : decode cX7_tryThing 129 = .ok (.ifCond .eq 9, 3) := by decide +kernel
theorem dX7_tryThing_132 : decode cX7_tryThing 132 = .ok (.aload_n 0, 1) := by decide +kernel
theorem dX7_tryThing_133 : decode cX7_tryThing 133 = .ok (.iconst 1, 1) := by decide +kernel
theorem dX7_tryThing_134 : decode cX7_tryThing 134 = .ok (.iload_n 3, 1) := by decide +kernel
theorem dX7_tryThing_135 : decode cX7_tryThing 135 = .ok (.invokevirtual 168, 3) := by decide +kernel
theorem dX7_tryThing_138 : decode cX7_tryThing 138 = .ok (.iload 5, 2) := by decide +kernel
theorem dX7_tryThing_140 : decode cX7_tryThing 140 = .ok (.ireturn, 1) := by decide +kernel
theorem dX7_tryThing_141 : decode cX7_tryThing 141 = .ok (.iload_n 2, 1) := by decide +kernel
theorem dX7_tryThing_142 : decode cX7_tryThing 142 = .ok (.ifCond .ne 29, 3) := by decide +kernel
theorem dX7_tryThing_145 : decode cX7_tryThing 145 = .ok (.aload_n 0, 1) := by decide +kernel
theorem dX7_tryThing_146 : decode cX7_tryThing 146 = .ok (.iload_n 3, 1) := by decide +kernel
theorem dX7_tryThing_147 : decode cX7_tryThing 147 = .ok (.invokevirtual 146, 3) := by decide +kernel
theorem dX7_tryThing_150 : decode cX7_tryThing 150 = .ok (.ifCond .eq 21, 3) := by decide +kernel
theorem dX7_tryThing_153 : decode cX7_tryThing 153 = .ok (.aload_n 0, 1) := by decide +kernel
theorem dX7_tryThing_154 : decode cX7_tryThing 154 = .ok (.getfield 34, 3) := by decide +kernel
theorem dX7_tryThing_157 : decode cX7_tryThing 157 = .ok (.bipush 9, 2) := by decide +kernel
theorem dX7_tryThing_159 : decode cX7_tryThing 159 = .ok (.iaload, 1) := by decide +kernel
theorem dX7_tryThing_160 : decode cX7_tryThing 160 = .ok (.iload_n 3, 1) := by decide +kernel
theorem dX7_tryThing_161 : decode cX7_tryThing 161 = .ok (.invokestatic 119, 3) := by decide +kernel
theorem dX7_tryThing_164 : decode cX7_tryThing 164 = .ok (.ifCond .ne 7, 3) := by decide +kernel
theorem dX7_tryThing_167 : decode cX7_tryThing 167 = .ok (.iconst 1, 1) := by decide +kernel
theorem dX7_tryThing_168 : decode cX7_tryThing 168 = .ok (.goto 4, 3) := by decide +kernel
theorem dX7_tryThing_171 : decode cX7_tryThing 171 = .ok (.iconst 0, 1) := by decide +kernel
theorem dX7_tryThing_172 : decode cX7_tryThing 172 = .ok (.istore 6, 2) := by decide +kernel
theorem dX7_tryThing_174 : decode cX7_tryThing 174 = .ok (.aload_n 0, 1) := by decide +kernel
theorem dX7_tryThing_175 : decode cX7_tryThing 175 = .ok (.getfield 34, 3) := by decide +kernel
theorem dX7_tryThing_178 : decode cX7_tryThing 178 = .ok (.bipush 9, 2) := by decide +kernel
theorem dX7_tryThing_180 : decode cX7_tryThing 180 = .ok (.dup2, 1) := by decide +kernel
theorem dX7_tryThing_181 : decode cX7_tryThing 181 = .ok (.iaload, 1) := by decide +kernel
theorem dX7_tryThing_182 : decode cX7_tryThing 182 = .ok (.iload 6, 2) := by decide +kernel
theorem dX7_tryThing_184 : decode cX7_tryThing 184 = .ok (.ifCond .eq 9, 3) := by decide +kernel
theorem dX7_tryThing_187 : decode cX7_tryThing 187 = .ok (.iconst 1, 1) := by decide +kernel
theorem dX7_tryThing_188 : decode cX7_tryThing 188 = .ok (.iload_n 3, 1) := by decide +kernel
theorem dX7_tryThing_189 : decode cX7_tryThing 189 = .ok (.ishl, 1) := by decide +kernel
theorem dX7_tryThing_190 : decode cX7_tryThing 190 = .ok (.goto 4, 3) := by decide +kernel
theorem dX7_tryThing_193 : decode cX7_tryThing 193 = .ok (.iconst 0, 1) := by decide +kernel
theorem dX7_tryThing_194 : decode cX7_tryThing 194 = .ok (.ior, 1) := by decide +kernel
theorem dX7_tryThing_195 : decode cX7_tryThing 195 = .ok (.iastore, 1) := by decide +kernel
theorem dX7_tryThing_196 : decode cX7_tryThing 196 = .ok (.iload 6, 2) := by decide +kernel
theorem dX7_tryThing_198 : decode cX7_tryThing 198 = .ok (.ireturn, 1) := by decide +kernel
theorem dX7_tryThing_199 : decode cX7_tryThing 199 = .ok (.iload_n 2, 1) := by decide +kernel
theorem dX7_tryThing_200 : decode cX7_tryThing 200 = .ok (.invokestatic 150, 3) := by decide +kernel
theorem dX7_tryThing_203 : decode cX7_tryThing 203 = .ok (.ifCond .eq 30, 3) := by decide +kernel
theorem dX7_tryThing_206 : decode cX7_tryThing 206 = .ok (.iload_n 3, 1) := by decide +kernel
theorem dX7_tryThing_207 : decode cX7_tryThing 207 = .ok (.invokestatic 150, 3) := by decide +kernel
theorem dX7_tryThing_210 : decode cX7_tryThing 210 = .ok (.ifCond .eq 23, 3) := by decide +kernel
theorem dX7_tryThing_213 : decode cX7_tryThing 213 = .ok (.aload_n 0, 1) := by decide +kernel
theorem dX7_tryThing_214 : decode cX7_tryThing 214 = .ok (.iload_n 2, 1) := by decide +kernel
theorem dX7_tryThing_215 : decode cX7_tryThing 215 = .ok (.iload_n 3, 1) := by decide +kernel
theorem dX7_tryThing_216 : decode cX7_tryThing 216 = .ok (.aload_n 0, 1) := by decide +kernel
theorem dX7_tryThing_217 : decode cX7_tryThing 217 = .ok (.getfield 34, 3) := by decide +kernel
theorem dX7_tryThing_220 : decode cX7_tryThing 220 = .ok (.bipush 9, 2) := by decide +kernel
theorem dX7_tryThing_222 : decode cX7_tryThing 222 = .ok (.iaload, 1) := by decide +kernel
theorem dX7_tryThing_223 : decode cX7_tryThing 223 = .ok (.invokevirtual 126, 3) := by decide +kernel
theorem dX7_tryThing_226 : decode cX7_tryThing 226 = .ok (.ifCond .eq 7, 3) := by decide +kernel
theorem dX7_tryThing_229 : decode cX7_tryThing 229 = .ok (.iconst 1, 1) := by decide +kernel
theorem dX7_tryThing_230 : decode cX7_tryThing 230 = .ok (.goto 4, 3) := by decide +kernel
theorem dX7_tryThing_233 : decode cX7_tryThing 233 = .ok (.iconst 0, 1) := by decide +kernel
theorem dX7_tryThing_234 : decode cX7_tryThing 234 = .ok (.ireturn, 1) := by decide +kernel
theorem dX7_tryThing_235 : decode cX7_tryThing 235 = .ok (.iload_n 2, 1) := by decide +kernel
theorem dX7_tryThing_236 : decode cX7_tryThing 236 = .ok (.ifCond .ne 41, 3) := by decide +kernel
theorem dX7_tryThing_239 : decode cX7_tryThing 239 = .ok (.iload_n 3, 1) := by decide +kernel
theorem dX7_tryThing_240 : decode cX7_tryThing 240 = .ok (.i2l, 1) := by decide +kernel
theorem dX7_tryThing_241 : decode cX7_tryThing 241 = .ok (.lconst 0, 1) := by decide +kernel
theorem dX7_tryThing_242 : decode cX7_tryThing 242 = .ok (.aload_n 0, 1) := by decide +kernel
theorem dX7_tryThing_243 : decode cX7_tryThing 243 = .ok (.getfield 111, 3) := by decide +kernel
theorem dX7_tryThing_246 : decode cX7_tryThing 246 = .ok (.iconst 1, 1) := by decide +kernel
theorem dX7_tryThing_247 : decode cX7_tryThing 247 = .ok (.isub, 1) := by decide +kernel
theorem dX7_tryThing_248 : decode cX7_tryThing 248 = .ok (.i2l, 1) := by decide +kernel
theorem dX7_tryThing_249 : decode cX7_tryThing 249 = .ok (.invokestatic 70, 3) := by decide +kernel
theorem dX7_tryThing_252 : decode cX7_tryThing 252 = .ok (.ifCond .eq 25, 3) := by decide +kernel
theorem dX7_tryThing_255 : decode cX7_tryThing 255 = .ok (.aload_n 0, 1) := by decide +kernel
theorem dX7_tryThing_256 : decode cX7_tryThing 256 = .ok (.aload_n 0, 1) := by decide +kernel
theorem dX7_tryThing_257 : decode cX7_tryThing 257 = .ok (.getfield 34, 3) := by decide +kernel
theorem dX7_tryThing_260 : decode cX7_tryThing 260 = .ok (.bipush 9, 2) := by decide +kernel
theorem dX7_tryThing_262 : decode cX7_tryThing 262 = .ok (.iaload, 1) := by decide +kernel
theorem dX7_tryThing_263 : decode cX7_tryThing 263 = .ok (.invokevirtual 180, 3) := by decide +kernel
theorem dX7_tryThing_266 : decode cX7_tryThing 266 = .ok (.iload_n 3, 1) := by decide +kernel
theorem dX7_tryThing_267 : decode cX7_tryThing 267 = .ok (.invokestatic 119, 3) := by decide +kernel
theorem dX7_tryThing_270 : decode cX7_tryThing 270 = .ok (.ifCond .eq 7, 3) := by decide +kernel
theorem dX7_tryThing_273 : decode cX7_tryThing 273 = .ok (.iconst 1, 1) := by decide +kernel
theorem dX7_tryThing_274 : decode cX7_tryThing 274 = .ok (.goto 4, 3) := by decide +kernel
theorem dX7_tryThing_277 : decode cX7_tryThing 277 = .ok (.iconst 0, 1) := by decide +kernel
theorem dX7_tryThing_278 : decode cX7_tryThing 278 = .ok (.ireturn, 1) := by decide +kernel
theorem dX7_tryThing_279 : decode cX7_tryThing 279 = .ok (.iconst 0, 1) := by decide +kernel
theorem dX7_tryThing_280 : decode cX7_tryThing 280 = .ok (.ireturn, 1) := by decide +kernel
theorem dX7_thousandTo_0 : decode cX7_thousandTo 0 = .ok (.lconst 1, 1) := by decide +kernel
theorem dX7_thousandTo_1 : decode cX7_thousandTo 1 = .ok (.lstore_n 1, 1) := by decide +kernel
theorem dX7_thousandTo_2 : decode cX7_thousandTo 2 = .ok (.iconst 0, 1) := by decide +kernel
theorem dX7_thousandTo_3 : decode cX7_thousandTo 3 = .ok (.istore_n 3, 1) := by decide +kernel
theorem dX7_thousandTo_4 : decode cX7_thousandTo 4 = .ok (.iload_n 3, 1) := by decide +kernel
theorem dX7_thousandTo_5 : decode cX7_thousandTo 5 = .ok (.iload_n 0, 1) := by decide +kernel
theorem dX7_thousandTo_6 : decode cX7_thousandTo 6 = .ok (.if_icmp .ge 15, 3) := by decide +kernel
theorem dX7_thousandTo_9 : decode cX7_thousandTo 9 = .ok (.lload_n 1, 1) := by decide +kernel
theorem dX7_thousandTo_10 : decode cX7_thousandTo 10 = .ok (.ldc2_w 183, 3) := by decide +kernel
theorem dX7_thousandTo_13 : decode cX7_thousandTo 13 = .ok (.lmul, 1) := by decide +kernel
theorem dX7_thousandTo_14 : decode cX7_thousandTo 14 = .ok (.lstore_n 1, 1) := by decide +kernel
theorem dX7_thousandTo_15 : decode cX7_thousandTo 15 = .ok (.iinc 3 1, 3) := by decide +kernel
theorem dX7_thousandTo_18 : decode cX7_thousandTo 18 = .ok (.goto (-14), 3) := by decide +kernel
theorem dX7_thousandTo_21 : decode cX7_thousandTo 21 = .ok (.lload_n 1, 1) := by decide +kernel
theorem dX7_thousandTo_22 : decode cX7_thousandTo 22 = .ok (.lreturn, 1) := by decide +kernel
theorem dX7_judge_0 : decode cX7_judge 0 = .ok (.iload_n 1, 1) := by decide +kernel
theorem dX7_judge_1 : decode cX7_judge 1 = .ok (.i2l, 1) := by decide +kernel
theorem dX7_judge_2 : decode cX7_judge 2 = .ok (.lconst 1, 1) := by decide +kernel
theorem dX7_judge_3 : decode cX7_judge 3 = .ok (.ldc2_w 185, 3) := by decide +kernel
theorem dX7_judge_6 : decode cX7_judge 6 = .ok (.invokestatic 70, 3) := by decide +kernel
theorem dX7_judge_9 : decode cX7_judge 9 = .ok (.ifCond .eq 17, 3) := by decide +kernel
theorem dX7_judge_12 : decode cX7_judge 12 = .ok (.lload_n 2, 1) := by decide +kernel
theorem dX7_judge_13 : decode cX7_judge 13 = .ok (.lconst 0, 1) := by decide +kernel
theorem dX7_judge_14 : decode cX7_judge 14 = .ok (.iload_n 1, 1) := by decide +kernel
theorem dX7_judge_15 : decode cX7_judge 15 = .ok (.invokestatic 187, 3) := by decide +kernel
theorem dX7_judge_18 : decode cX7_judge 18 = .ok (.lconst 1, 1) := by decide +kernel
theorem dX7_judge_19 : decode cX7_judge 19 = .ok (.lsub, 1) := by decide +kernel
theorem dX7_judge_20 : decode cX7_judge 20 = .ok (.invokestatic 70, 3) := by decide +kernel
theorem dX7_judge_23 : decode cX7_judge 23 = .ok (.ifCond .ne 6, 3) := by decide +kernel
theorem dX7_judge_26 : decode cX7_judge 26 = .ok (.bipush (-2), 2) := by decide +kernel
theorem dX7_judge_28 : decode cX7_judge 28 = .ok (.ireturn, 1) := by decide +kernel
theorem dX7_judge_29 : decode cX7_judge 29 = .ok (.aload_n 0, 1) := by decide +kernel
theorem dX7_judge_30 : decode cX7_judge 30 = .ok (.invokevirtual 174, 3) := by decide +kernel
theorem dX7_judge_33 : decode cX7_judge 33 = .ok (.iconst 0, 1) := by decide +kernel
theorem dX7_judge_34 : decode cX7_judge 34 = .ok (.istore 4, 2) := by decide +kernel
theorem dX7_judge_36 : decode cX7_judge 36 = .ok (.iload 4, 2) := by decide +kernel
theorem dX7_judge_38 : decode cX7_judge 38 = .ok (.iload_n 1, 1) := by decide +kernel
theorem dX7_judge_39 : decode cX7_judge 39 = .ok (.if_icmp .ge 55, 3) := by decide +kernel
theorem dX7_judge_42 : decode cX7_judge 42 = .ok (.lload_n 2, 1) := by decide +kernel
theorem dX7_judge_43 : decode cX7_judge 43 = .ok (.iload_n 1, 1) := by decide +kernel
theorem dX7_judge_44 : decode cX7_judge 44 = .ok (.iconst 1, 1) := by decide +kernel
theorem dX7_judge_45 : decode cX7_judge 45 = .ok (.isub, 1) := by decide +kernel
theorem dX7_judge_46 : decode cX7_judge 46 = .ok (.iload 4, 2) := by decide +kernel
theorem dX7_judge_48 : decode cX7_judge 48 = .ok (.isub, 1) := by decide +kernel
theorem dX7_judge_49 : decode cX7_judge 49 = .ok (.invokestatic 187, 3) := by decide +kernel
theorem dX7_judge_52 : decode cX7_judge 52 = .ok (.ldiv, 1) := by decide +kernel
theorem dX7_judge_53 : decode cX7_judge 53 = .ok (.ldc2_w 183, 3) := by decide +kernel
theorem dX7_judge_56 : decode cX7_judge 56 = .ok (.lrem, 1) := by decide +kernel
theorem dX7_judge_57 : decode cX7_judge 57 = .ok (.l2i, 1) := by decide +kernel
theorem dX7_judge_58 : decode cX7_judge 58 = .ok (.istore 5, 2) := by decide +kernel
theorem dX7_judge_60 : decode cX7_judge 60 = .ok (.aload_n 0, 1) := by decide +kernel
theorem dX7_judge_61 : decode cX7_judge 61 = .ok (.iload 5, 2) := by decide +kernel
theorem dX7_judge_63 : decode cX7_judge 63 = .ok (.bipush 100, 2) := by decide +kernel
theorem dX7_judge_65 : decode cX7_judge 65 = .ok (.idiv, 1) := by decide +kernel
theorem dX7_judge_66 : decode cX7_judge 66 = .ok (.iload 5, 2) := by decide +kernel
theorem dX7_judge_68 : decode cX7_judge 68 = .ok (.bipush 10, 2) := by decide +kernel
theorem dX7_judge_70 : decode cX7_judge 70 = .ok (.idiv, 1) := by decide +kernel
theorem dX7_judge_71 : decode cX7_judge 71 = .ok (.bipush 10, 2) := by decide +kernel
theorem dX7_judge_73 : decode cX7_judge 73 = .ok (.irem, 1) := by decide +kernel
theorem dX7_judge_74 : decode cX7_judge 74 = .ok (.iload 5, 2) := by decide +kernel
theorem dX7_judge_76 : decode cX7_judge 76 = .ok (.bipush 10, 2) := by decide +kernel
theorem dX7_judge_78 : decode cX7_judge 78 = .ok (.irem, 1) := by decide +kernel
theorem dX7_judge_79 : decode cX7_judge 79 = .ok (.invokevirtual 191, 3) := by decide +kernel
theorem dX7_judge_82 : decode cX7_judge 82 = .ok (.ifCond .ne 6, 3) := by decide +kernel
theorem dX7_judge_85 : decode cX7_judge 85 = .ok (.iload 4, 2) := by decide +kernel
theorem dX7_judge_87 : decode cX7_judge 87 = .ok (.ireturn, 1) := by decide +kernel
theorem dX7_judge_88 : decode cX7_judge 88 = .ok (.iinc 4 1, 3) := by decide +kernel
theorem dX7_judge_91 : decode cX7_judge 91 = .ok (.goto (-55), 3) := by decide +kernel
theorem dX7_judge_94 : decode cX7_judge 94 = .ok (.bipush (-9), 2) := by decide +kernel
theorem dX7_judge_96 : decode cX7_judge 96 = .ok (.ireturn, 1) := by decide +kernel
theorem dX7_trial_0 : decode cX7_trial 0 = .ok (.iload_n 1, 1) := by decide +kernel
theorem dX7_trial_1 : decode cX7_trial 1 = .ok (.i2l, 1) := by decide +kernel
theorem dX7_trial_2 : decode cX7_trial 2 = .ok (.lconst 0, 1) := by decide +kernel
theorem dX7_trial_3 : decode cX7_trial 3 = .ok (.ldc2_w 194, 3) := by decide +kernel
theorem dX7_trial_6 : decode cX7_trial 6 = .ok (.invokestatic 70, 3) := by decide +kernel
theorem dX7_trial_9 : decode cX7_trial 9 = .ok (.ifCond .eq 13, 3) := by decide +kernel
theorem dX7_trial_12 : decode cX7_trial 12 = .ok (.iload_n 2, 1) := by decide +kernel
theorem dX7_trial_13 : decode cX7_trial 13 = .ok (.i2l, 1) := by decide +kernel
theorem dX7_trial_14 : decode cX7_trial 14 = .ok (.lconst 0, 1) := by decide +kernel
theorem dX7_trial_15 : decode cX7_trial 15 = .ok (.lconst 1, 1) := by decide +kernel
theorem dX7_trial_16 : decode cX7_trial 16 = .ok (.invokestatic 70, 3) := by decide +kernel
theorem dX7_trial_19 : decode cX7_trial 19 = .ok (.ifCond .ne 6, 3) := by decide +kernel
theorem dX7_trial_22 : decode cX7_trial 22 = .ok (.bipush (-2), 2) := by decide +kernel
theorem dX7_trial_24 : decode cX7_trial 24 = .ok (.ireturn, 1) := by decide +kernel
theorem dX7_trial_25 : decode cX7_trial 25 = .ok (.aload_n 0, 1) := by decide +kernel
theorem dX7_trial_26 : decode cX7_trial 26 = .ok (.getfield 196, 3) := by decide +kernel
theorem dX7_trial_29 : decode cX7_trial 29 = .ok (.bipush 6, 2) := by decide +kernel
theorem dX7_trial_31 : decode cX7_trial 31 = .ok (.if_icmp .ne 6, 3) := by decide +kernel
theorem dX7_trial_34 : decode cX7_trial 34 = .ok (.bipush (-4), 2) := by decide +kernel
theorem dX7_trial_36 : decode cX7_trial 36 = .ok (.ireturn, 1) := by decide +kernel
theorem dX7_trial_37 : decode cX7_trial 37 = .ok (.aload_n 0, 1) := by decide +kernel
theorem dX7_trial_38 : decode cX7_trial 38 = .ok (.getfield 55, 3) := by decide +kernel
theorem dX7_trial_41 : decode cX7_trial 41 = .ok (.aload_n 0, 1) := by decide +kernel
theorem dX7_trial_42 : decode cX7_trial 42 = .ok (.getfield 196, 3) := by decide +kernel
theorem dX7_trial_45 : decode cX7_trial 45 = .ok (.iload_n 1, 1) := by decide +kernel
theorem dX7_trial_46 : decode cX7_trial 46 = .ok (.iastore, 1) := by decide +kernel
theorem dX7_trial_47 : decode cX7_trial 47 = .ok (.aload_n 0, 1) := by decide +kernel
theorem dX7_trial_48 : decode cX7_trial 48 = .ok (.getfield 58, 3) := by decide +kernel
theorem dX7_trial_51 : decode cX7_trial 51 = .ok (.aload_n 0, 1) := by decide +kernel
theorem dX7_trial_52 : decode cX7_trial 52 = .ok (.getfield 196, 3) := by decide +kernel
theorem dX7_trial_55 : decode cX7_trial 55 = .ok (.iload_n 2, 1) := by decide +kernel
theorem dX7_trial_56 : decode cX7_trial 56 = .ok (.iastore, 1) := by decide +kernel
theorem dX7_trial_57 : decode cX7_trial 57 = .ok (.aload_n 0, 1) := by decide +kernel
theorem dX7_trial_58 : decode cX7_trial 58 = .ok (.dup, 1) := by decide +kernel
theorem dX7_trial_59 : decode cX7_trial 59 = .ok (.getfield 196, 3) := by decide +kernel
theorem dX7_trial_62 : decode cX7_trial 62 = .ok (.iconst 1, 1) := by decide +kernel
theorem dX7_trial_63 : decode cX7_trial 63 = .ok (.iadd, 1) := by decide +kernel
theorem dX7_trial_64 : decode cX7_trial 64 = .ok (.putfield 196, 3) := by decide +kernel
theorem dX7_trial_67 : decode cX7_trial 67 = .ok (.aload_n 0, 1) := by decide +kernel
theorem dX7_trial_68 : decode cX7_trial 68 = .ok (.getfield 196, 3) := by decide +kernel
theorem dX7_trial_71 : decode cX7_trial 71 = .ok (.ireturn, 1) := by decide +kernel
theorem dX7_untry_0 : decode cX7_untry 0 = .ok (.aload_n 0, 1) := by decide +kernel
theorem dX7_untry_1 : decode cX7_untry 1 = .ok (.getfield 196, 3) := by decide +kernel
theorem dX7_untry_4 : decode cX7_untry 4 = .ok (.istore_n 1, 1) := by decide +kernel
theorem dX7_untry_5 : decode cX7_untry 5 = .ok (.aload_n 0, 1) := by decide +kernel
theorem dX7_untry_6 : decode cX7_untry 6 = .ok (.iconst 0, 1) := by decide +kernel
theorem dX7_untry_7 : decode cX7_untry 7 = .ok (.putfield 196, 3) := by decide +kernel
theorem dX7_untry_10 : decode cX7_untry 10 = .ok (.iload_n 1, 1) := by decide +kernel
theorem dX7_untry_11 : decode cX7_untry 11 = .ok (.ireturn, 1) := by decide +kernel
theorem dX7_which_0 : decode cX7_which 0 = .ok (.iload_n 1, 1) := by decide +kernel
theorem dX7_which_1 : decode cX7_which 1 = .ok (.i2l, 1) := by decide +kernel
theorem dX7_which_2 : decode cX7_which 2 = .ok (.lconst 0, 1) := by decide +kernel
theorem dX7_which_3 : decode cX7_which 3 = .ok (.lconst 1, 1) := by decide +kernel
theorem dX7_which_4 : decode cX7_which 4 = .ok (.invokestatic 70, 3) := by decide +kernel
theorem dX7_which_7 : decode cX7_which 7 = .ok (.ifCond .ne 6, 3) := by decide +kernel
theorem dX7_which_10 : decode cX7_which 10 = .ok (.bipush (-2), 2) := by decide +kernel
theorem dX7_which_12 : decode cX7_which 12 = .ok (.ireturn, 1) := by decide +kernel
theorem dX7_which_13 : decode cX7_which 13 = .ok (.iconst 0, 1) := by decide +kernel
theorem dX7_which_14 : decode cX7_which 14 = .ok (.istore_n 2, 1) := by decide +kernel
theorem dX7_which_15 : decode cX7_which 15 = .ok (.bipush (-9), 2) := by decide +kernel
theorem dX7_which_17 : decode cX7_which 17 = .ok (.istore_n 3, 1) := by decide +kernel
theorem dX7_which_18 : decode cX7_which 18 = .ok (.iconst 0, 1) := by decide +kernel
theorem dX7_which_19 : decode cX7_which 19 = .ok (.istore 4, 2) := by decide +kernel
theorem dX7_which_21 : decode cX7_which 21 = .ok (.iload 4, 2) := by decide +kernel
theorem dX7_which_23 : decode cX7_which 23 = .ok (.bipush 20, 2) := by decide +kernel
theorem dX7_which_25 : decode cX7_which 25 = .ok (.if_icmp .ge 127, 3) := by decide +kernel
theorem dX7_which_28 : decode cX7_which 28 = .ok (.iload 4, 2) := by decide +kernel
theorem dX7_which_30 : decode cX7_which 30 = .ok (.bipush 10, 2) := by decide +kernel
theorem dX7_which_32 : decode cX7_which 32 = .ok (.irem, 1) := by decide +kernel
theorem dX7_which_33 : decode cX7_which 33 = .ok (.iload 4, 2) := by decide +kernel
theorem dX7_which_35 : decode cX7_which 35 = .ok (.bipush 9, 2) := by decide +kernel
theorem dX7_which_37 : decode cX7_which 37 = .ok (.if_icmp .le 7, 3) := by decide +kernel
theorem dX7_which_40 : decode cX7_which 40 = .ok (.iconst 3, 1) := by decide +kernel
theorem dX7_which_41 : decode cX7_which 41 = .ok (.goto 4, 3) := by decide +kernel
theorem dX7_which_44 : decode cX7_which 44 = .ok (.iconst 0, 1) := by decide +kernel
theorem dX7_which_45 : decode cX7_which 45 = .ok (.iadd, 1) := by decide +kernel
theorem dX7_which_46 : decode cX7_which 46 = .ok (.istore 5, 2) := by decide +kernel
theorem dX7_which_48 : decode cX7_which 48 = .ok (.iconst 1, 1) := by decide +kernel
theorem dX7_which_49 : decode cX7_which 49 = .ok (.istore 6, 2) := by decide +kernel
theorem dX7_which_51 : decode cX7_which 51 = .ok (.iconst 0, 1) := by decide +kernel
theorem dX7_which_52 : decode cX7_which 52 = .ok (.istore 7, 2) := by decide +kernel
theorem dX7_which_54 : decode cX7_which 54 = .ok (.iload 7, 2) := by decide +kernel
theorem dX7_which_56 : decode cX7_which 56 = .ok (.aload_n 0, 1) := by decide +kernel
theorem dX7_which_57 : decode cX7_which 57 = .ok (.getfield 196, 3) := by decide +kernel
theorem dX7_which_60 : decode cX7_which 60 = .ok (.if_icmp .ge 57, 3) := by decide +kernel
theorem dX7_which_63 : decode cX7_which 63 = .ok (.iload 6, 2) := by decide +kernel
theorem dX7_which_65 : decode cX7_which 65 = .ok (.ifCond .eq 43, 3) := by decide +kernel
theorem dX7_which_68 : decode cX7_which 68 = .ok (.aload_n 0, 1) := by decide +kernel
theorem dX7_which_69 : decode cX7_which 69 = .ok (.getfield 55, 3) := by decide +kernel
theorem dX7_which_72 : decode cX7_which 72 = .ok (.iload 7, 2) := by decide +kernel
theorem dX7_which_74 : decode cX7_which 74 = .ok (.iaload, 1) := by decide +kernel
theorem dX7_which_75 : decode cX7_which 75 = .ok (.iload 5, 2) := by decide +kernel
theorem dX7_which_77 : decode cX7_which 77 = .ok (.if_icmp .le 7, 3) := by decide +kernel
theorem dX7_which_80 : decode cX7_which 80 = .ok (.iconst 1, 1) := by decide +kernel
theorem dX7_which_81 : decode cX7_which 81 = .ok (.goto 4, 3) := by decide +kernel
theorem dX7_which_84 : decode cX7_which 84 = .ok (.iconst 0, 1) := by decide +kernel
theorem dX7_which_85 : decode cX7_which 85 = .ok (.aload_n 0, 1) := by decide +kernel
theorem dX7_which_86 : decode cX7_which 86 = .ok (.getfield 58, 3) := by decide +kernel
theorem dX7_which_89 : decode cX7_which 89 = .ok (.iload 7, 2) := by decide +kernel
theorem dX7_which_91 : decode cX7_which 91 = .ok (.iaload, 1) := by decide +kernel
theorem dX7_which_92 : decode cX7_which 92 = .ok (.iconst 1, 1) := by decide +kernel
theorem dX7_which_93 : decode cX7_which 93 = .ok (.if_icmp .ne 7, 3) := by decide +kernel
theorem dX7_which_96 : decode cX7_which 96 = .ok (.iconst 1, 1) := by decide +kernel
theorem dX7_which_97 : decode cX7_which 97 = .ok (.goto 4, 3) := by decide +kernel
theorem dX7_which_100 : decode cX7_which 100 = .ok (.iconst 0, 1) := by decide +kernel
theorem dX7_which_101 : decode cX7_which 101 = .ok (.if_icmp .ne 7, 3) := by decide +kernel
theorem dX7_which_104 : decode cX7_which 104 = .ok (.iconst 1, 1) := by decide +kernel
theorem dX7_which_105 : decode cX7_which 105 = .ok (.goto 4, 3) := by decide +kernel
theorem dX7_which_108 : decode cX7_which 108 = .ok (.iconst 0, 1) := by decide +kernel
theorem dX7_which_109 : decode cX7_which 109 = .ok (.istore 6, 2) := by decide +kernel
theorem dX7_which_111 : decode cX7_which 111 = .ok (.iinc 7 1, 3) := by decide +kernel
theorem dX7_which_114 : decode cX7_which 114 = .ok (.goto (-60), 3) := by decide +kernel
theorem dX7_which_117 : decode cX7_which 117 = .ok (.iload 6, 2) := by decide +kernel
theorem dX7_which_119 : decode cX7_which 119 = .ok (.ifCond .eq 12, 3) := by decide +kernel
theorem dX7_which_122 : decode cX7_which 122 = .ok (.iload_n 2, 1) := by decide +kernel
theorem dX7_which_123 : decode cX7_which 123 = .ok (.ifCond .ne 8, 3) := by decide +kernel
theorem dX7_which_126 : decode cX7_which 126 = .ok (.iload 4, 2) := by decide +kernel
theorem dX7_which_128 : decode cX7_which 128 = .ok (.goto 4, 3) := by decide +kernel
theorem dX7_which_131 : decode cX7_which 131 = .ok (.iload_n 3, 1) := by decide +kernel
theorem dX7_which_132 : decode cX7_which 132 = .ok (.istore_n 3, 1) := by decide +kernel
theorem dX7_which_133 : decode cX7_which 133 = .ok (.iload_n 2, 1) := by decide +kernel
theorem dX7_which_134 : decode cX7_which 134 = .ok (.iload 6, 2) := by decide +kernel
theorem dX7_which_136 : decode cX7_which 136 = .ok (.ifCond .eq 7, 3) := by decide +kernel
theorem dX7_which_139 : decode cX7_which 139 = .ok (.iconst 1, 1) := by decide +kernel
theorem dX7_which_140 : decode cX7_which 140 = .ok (.goto 4, 3) := by decide +kernel
theorem dX7_which_143 : decode cX7_which 143 = .ok (.iconst 0, 1) := by decide +kernel
theorem dX7_which_144 : decode cX7_which 144 = .ok (.iadd, 1) := by decide +kernel
theorem dX7_which_145 : decode cX7_which 145 = .ok (.istore_n 2, 1) := by decide +kernel
theorem dX7_which_146 : decode cX7_which 146 = .ok (.iinc 4 1, 3) := by decide +kernel
theorem dX7_which_149 : decode cX7_which 149 = .ok (.goto (-128), 3) := by decide +kernel
theorem dX7_which_152 : decode cX7_which 152 = .ok (.iload_n 1, 1) := by decide +kernel
theorem dX7_which_153 : decode cX7_which 153 = .ok (.ifCond .ne 7, 3) := by decide +kernel
theorem dX7_which_156 : decode cX7_which 156 = .ok (.iload_n 2, 1) := by decide +kernel
theorem dX7_which_157 : decode cX7_which 157 = .ok (.goto 4, 3) := by decide +kernel
theorem dX7_which_160 : decode cX7_which 160 = .ok (.iload_n 3, 1) := by decide +kernel
theorem dX7_which_161 : decode cX7_which 161 = .ok (.ireturn, 1) := by decide +kernel
theorem dX7_factorial_0 : decode cX7_factorial 0 = .ok (.iconst 1, 1) := by decide +kernel
theorem dX7_factorial_1 : decode cX7_factorial 1 = .ok (.istore_n 1, 1) := by decide +kernel
theorem dX7_factorial_2 : decode cX7_factorial 2 = .ok (.iconst 2, 1) := by decide +kernel
theorem dX7_factorial_3 : decode cX7_factorial 3 = .ok (.istore_n 2, 1) := by decide +kernel
theorem dX7_factorial_4 : decode cX7_factorial 4 = .ok (.iload_n 2, 1) := by decide +kernel
theorem dX7_factorial_5 : decode cX7_factorial 5 = .ok (.iload_n 0, 1) := by decide +kernel
theorem dX7_factorial_6 : decode cX7_factorial 6 = .ok (.if_icmp .gt 13, 3) := by decide +kernel
theorem dX7_factorial_9 : decode cX7_factorial 9 = .ok (.iload_n 1, 1) := by decide +kernel
theorem dX7_factorial_10 : decode cX7_factorial 10 = .ok (.iload_n 2, 1) := by decide +kernel
theorem dX7_factorial_11 : decode cX7_factorial 11 = .ok (.imul, 1) := by decide +kernel
theorem dX7_factorial_12 : decode cX7_factorial 12 = .ok (.istore_n 1, 1) := by decide +kernel
theorem dX7_factorial_13 : decode cX7_factorial 13 = .ok (.iinc 2 1, 3) := by decide +kernel
theorem dX7_factorial_16 : decode cX7_factorial 16 = .ok (.goto (-12), 3) := by decide +kernel
theorem dX7_factorial_19 : decode cX7_factorial 19 = .ok (.iload_n 1, 1) := by decide +kernel
theorem dX7_factorial_20 : decode cX7_factorial 20 = .ok (.ireturn, 1) := by decide +kernel
theorem dX7_common_0 : decode cX7_common 0 = .ok (.iload_n 0, 1) := by decide +kernel
theorem dX7_common_1 : decode cX7_common 1 = .ok (.ifCond .ge 8, 3) := by decide +kernel
theorem dX7_common_4 : decode cX7_common 4 = .ok (.iload_n 0, 1) := by decide +kernel
theorem dX7_common_5 : decode cX7_common 5 = .ok (.ineg, 1) := by decide +kernel
theorem dX7_common_6 : decode cX7_common 6 = .ok (.goto 4, 3) := by decide +kernel
theorem dX7_common_9 : decode cX7_common 9 = .ok (.iload_n 0, 1) := by decide +kernel
theorem dX7_common_10 : decode cX7_common 10 = .ok (.istore_n 2, 1) := by decide +kernel
theorem dX7_common_11 : decode cX7_common 11 = .ok (.iload_n 1, 1) := by decide +kernel
theorem dX7_common_12 : decode cX7_common 12 = .ok (.istore_n 3, 1) := by decide +kernel
theorem dX7_common_13 : decode cX7_common 13 = .ok (.iload_n 3, 1) := by decide +kernel
theorem dX7_common_14 : decode cX7_common 14 = .ok (.ifCond .eq 16, 3) := by decide +kernel
theorem dX7_common_17 : decode cX7_common 17 = .ok (.iload_n 2, 1) := by decide +kernel
theorem dX7_common_18 : decode cX7_common 18 = .ok (.iload_n 3, 1) := by decide +kernel
theorem dX7_common_19 : decode cX7_common 19 = .ok (.irem, 1) := by decide +kernel
theorem dX7_common_20 : decode cX7_common 20 = .ok (.istore 4, 2) := by decide +kernel
theorem dX7_common_22 : decode cX7_common 22 = .ok (.iload_n 3, 1) := by decide +kernel
theorem dX7_common_23 : decode cX7_common 23 = .ok (.istore_n 2, 1) := by decide +kernel
theorem dX7_common_24 : decode cX7_common 24 = .ok (.iload 4, 2) := by decide +kernel
theorem dX7_common_26 : decode cX7_common 26 = .ok (.istore_n 3, 1) := by decide +kernel
theorem dX7_common_27 : decode cX7_common 27 = .ok (.goto (-14), 3) := by decide +kernel
theorem dX7_common_30 : decode cX7_common 30 = .ok (.iload_n 2, 1) := by decide +kernel
theorem dX7_common_31 : decode cX7_common 31 = .ok (.ireturn, 1) := by decide +kernel
theorem dX7_share_0 : decode cX7_share 0 = .ok (.aload_n 0, 1) := by decide +kernel
theorem dX7_share_1 : decode cX7_share 1 = .ok (.iload_n 1, 1) := by decide +kernel
theorem dX7_share_2 : decode cX7_share 2 = .ok (.invokevirtual 146, 3) := by decide +kernel
theorem dX7_share_5 : decode cX7_share 5 = .ok (.ifCond .ne 5, 3) := by decide +kernel
theorem dX7_share_8 : decode cX7_share 8 = .ok (.iconst (-1), 1) := by decide +kernel
theorem dX7_share_9 : decode cX7_share 9 = .ok (.ireturn, 1) := by decide +kernel
theorem dX7_share_10 : decode cX7_share 10 = .ok (.aload_n 0, 1) := by decide +kernel
theorem dX7_share_11 : decode cX7_share 11 = .ok (.invokevirtual 177, 3) := by decide +kernel
theorem dX7_share_14 : decode cX7_share 14 = .ok (.aload_n 0, 1) := by decide +kernel
theorem dX7_share_15 : decode cX7_share 15 = .ok (.getfield 34, 3) := by decide +kernel
theorem dX7_share_18 : decode cX7_share 18 = .ok (.iconst 0, 1) := by decide +kernel
theorem dX7_share_19 : decode cX7_share 19 = .ok (.iaload, 1) := by decide +kernel
theorem dX7_share_20 : decode cX7_share 20 = .ok (.iconst (-1), 1) := by decide +kernel
theorem dX7_share_21 : decode cX7_share 21 = .ok (.ixor, 1) := by decide +kernel
theorem dX7_share_22 : decode cX7_share 22 = .ok (.iand, 1) := by decide +kernel
theorem dX7_share_23 : decode cX7_share 23 = .ok (.istore_n 3, 1) := by decide +kernel
theorem dX7_share_24 : decode cX7_share 24 = .ok (.iconst 0, 1) := by decide +kernel
theorem dX7_share_25 : decode cX7_share 25 = .ok (.istore 4, 2) := by decide +kernel
theorem dX7_share_27 : decode cX7_share 27 = .ok (.iconst 0, 1) := by decide +kernel
theorem dX7_share_28 : decode cX7_share 28 = .ok (.istore 5, 2) := by decide +kernel
theorem dX7_share_30 : decode cX7_share 30 = .ok (.iload 5, 2) := by decide +kernel
theorem dX7_share_32 : decode cX7_share 32 = .ok (.iconst 1, 1) := by decide +kernel
theorem dX7_share_33 : decode cX7_share 33 = .ok (.aload_n 0, 1) := by decide +kernel
theorem dX7_share_34 : decode cX7_share 34 = .ok (.getfield 105, 3) := by decide +kernel
theorem dX7_share_37 : decode cX7_share 37 = .ok (.ishl, 1) := by decide +kernel
theorem dX7_share_38 : decode cX7_share 38 = .ok (.if_icmp .ge 102, 3) := by decide +kernel
theorem dX7_share_41 : decode cX7_share 41 = .ok (.iload 5, 2) := by decide +kernel
theorem dX7_share_43 : decode cX7_share 43 = .ok (.iload_n 3, 1) := by decide +kernel
theorem dX7_share_44 : decode cX7_share 44 = .ok (.iconst (-1), 1) := by decide +kernel
theorem dX7_share_45 : decode cX7_share 45 = .ok (.ixor, 1) := by decide +kernel
theorem dX7_share_46 : decode cX7_share 46 = .ok (.iand, 1) := by decide +kernel
theorem dX7_share_47 : decode cX7_share 47 = .ok (.ifCond .ne 87, 3) := by decide +kernel
theorem dX7_share_50 : decode cX7_share 50 = .ok (.iload_n 3, 1) := by decide +kernel
theorem dX7_share_51 : decode cX7_share 51 = .ok (.iload_n 1, 1) := by decide +kernel
theorem dX7_share_52 : decode cX7_share 52 = .ok (.invokestatic 119, 3) := by decide +kernel
theorem dX7_share_55 : decode cX7_share 55 = .ok (.ifCond .eq 79, 3) := by decide +kernel
theorem dX7_share_58 : decode cX7_share 58 = .ok (.iload 5, 2) := by decide +kernel
theorem dX7_share_60 : decode cX7_share 60 = .ok (.iload_n 1, 1) := by decide +kernel
theorem dX7_share_61 : decode cX7_share 61 = .ok (.invokestatic 119, 3) := by decide +kernel
theorem dX7_share_64 : decode cX7_share 64 = .ok (.ifCond .ne 70, 3) := by decide +kernel
theorem dX7_share_67 : decode cX7_share 67 = .ok (.iload 5, 2) := by decide +kernel
theorem dX7_share_69 : decode cX7_share 69 = .ok (.invokestatic 137, 3) := by decide +kernel
theorem dX7_share_72 : decode cX7_share 72 = .ok (.invokestatic 199, 3) := by decide +kernel
theorem dX7_share_75 : decode cX7_share 75 = .ok (.iload_n 3, 1) := by decide +kernel
theorem dX7_share_76 : decode cX7_share 76 = .ok (.invokestatic 137, 3) := by decide +kernel
theorem dX7_share_79 : decode cX7_share 79 = .ok (.iconst 1, 1) := by decide +kernel
theorem dX7_share_80 : decode cX7_share 80 = .ok (.isub, 1) := by decide +kernel
theorem dX7_share_81 : decode cX7_share 81 = .ok (.iload 5, 2) := by decide +kernel
theorem dX7_share_83 : decode cX7_share 83 = .ok (.invokestatic 137, 3) := by decide +kernel
theorem dX7_share_86 : decode cX7_share 86 = .ok (.isub, 1) := by decide +kernel
theorem dX7_share_87 : decode cX7_share 87 = .ok (.invokestatic 199, 3) := by decide +kernel
theorem dX7_share_90 : decode cX7_share 90 = .ok (.imul, 1) := by decide +kernel
theorem dX7_share_91 : decode cX7_share 91 = .ok (.istore 6, 2) := by decide +kernel
theorem dX7_share_93 : decode cX7_share 93 = .ok (.iload 4, 2) := by decide +kernel
theorem dX7_share_95 : decode cX7_share 95 = .ok (.iload 6, 2) := by decide +kernel
theorem dX7_share_97 : decode cX7_share 97 = .ok (.aload_n 0, 1) := by decide +kernel
theorem dX7_share_98 : decode cX7_share 98 = .ok (.aload_n 0, 1) := by decide +kernel
theorem dX7_share_99 : decode cX7_share 99 = .ok (.invokevirtual 177, 3) := by decide +kernel
theorem dX7_share_102 : decode cX7_share 102 = .ok (.iload 5, 2) := by decide +kernel
theorem dX7_share_104 : decode cX7_share 104 = .ok (.iconst (-1), 1) := by decide +kernel
theorem dX7_share_105 : decode cX7_share 105 = .ok (.ixor, 1) := by decide +kernel
theorem dX7_share_106 : decode cX7_share 106 = .ok (.iand, 1) := by decide +kernel
theorem dX7_share_107 : decode cX7_share 107 = .ok (.iconst 1, 1) := by decide +kernel
theorem dX7_share_108 : decode cX7_share 108 = .ok (.iload_n 1, 1) := by decide +kernel
theorem dX7_share_109 : decode cX7_share 109 = .ok (.ishl, 1) := by decide +kernel
theorem dX7_share_110 : decode cX7_share 110 = .ok (.iconst (-1), 1) := by decide +kernel
theorem dX7_share_111 : decode cX7_share 111 = .ok (.ixor, 1) := by decide +kernel
theorem dX7_share_112 : decode cX7_share 112 = .ok (.iand, 1) := by decide +kernel
theorem dX7_share_113 : decode cX7_share 113 = .ok (.invokevirtual 202, 3) := by decide +kernel
theorem dX7_share_116 : decode cX7_share 116 = .ok (.aload_n 0, 1) := by decide +kernel
theorem dX7_share_117 : decode cX7_share 117 = .ok (.aload_n 0, 1) := by decide +kernel
theorem dX7_share_118 : decode cX7_share 118 = .ok (.invokevirtual 177, 3) := by decide +kernel
theorem dX7_share_121 : decode cX7_share 121 = .ok (.iload 5, 2) := by decide +kernel
theorem dX7_share_123 : decode cX7_share 123 = .ok (.iconst (-1), 1) := by decide +kernel
theorem dX7_share_124 : decode cX7_share 124 = .ok (.ixor, 1) := by decide +kernel
theorem dX7_share_125 : decode cX7_share 125 = .ok (.iand, 1) := by decide +kernel
theorem dX7_share_126 : decode cX7_share 126 = .ok (.invokevirtual 202, 3) := by decide +kernel
theorem dX7_share_129 : decode cX7_share 129 = .ok (.isub, 1) := by decide +kernel
theorem dX7_share_130 : decode cX7_share 130 = .ok (.imul, 1) := by decide +kernel
theorem dX7_share_131 : decode cX7_share 131 = .ok (.iadd, 1) := by decide +kernel
theorem dX7_share_132 : decode cX7_share 132 = .ok (.istore 4, 2) := by decide +kernel
theorem dX7_share_134 : decode cX7_share 134 = .ok (.iinc 5 1, 3) := by decide +kernel
theorem dX7_share_137 : decode cX7_share 137 = .ok (.goto (-107), 3) := by decide +kernel
theorem dX7_share_140 : decode cX7_share 140 = .ok (.iload 4, 2) := by decide +kernel
theorem dX7_share_142 : decode cX7_share 142 = .ok (.iload_n 3, 1) := by decide +kernel
theorem dX7_share_143 : decode cX7_share 143 = .ok (.invokestatic 137, 3) := by decide +kernel
theorem dX7_share_146 : decode cX7_share 146 = .ok (.invokestatic 199, 3) := by decide +kernel
theorem dX7_share_149 : decode cX7_share 149 = .ok (.invokestatic 205, 3) := by decide +kernel
theorem dX7_share_152 : decode cX7_share 152 = .ok (.istore 5, 2) := by decide +kernel
theorem dX7_share_154 : decode cX7_share 154 = .ok (.iload_n 2, 1) := by decide +kernel
theorem dX7_share_155 : decode cX7_share 155 = .ok (.ifCond .eq 11, 3) := by decide +kernel
theorem dX7_share_158 : decode cX7_share 158 = .ok (.iload 4, 2) := by decide +kernel
theorem dX7_share_160 : decode cX7_share 160 = .ok (.iload 5, 2) := by decide +kernel
theorem dX7_share_162 : decode cX7_share 162 = .ok (.idiv, 1) := by decide +kernel
theorem dX7_share_163 : decode cX7_share 163 = .ok (.goto 13, 3) := by decide +kernel
theorem dX7_share_166 : decode cX7_share 166 = .ok (.iload_n 3, 1) := by decide +kernel
theorem dX7_share_167 : decode cX7_share 167 = .ok (.invokestatic 137, 3) := by decide +kernel
theorem dX7_share_170 : decode cX7_share 170 = .ok (.invokestatic 199, 3) := by decide +kernel
theorem dX7_share_173 : decode cX7_share 173 = .ok (.iload 5, 2) := by decide +kernel
theorem dX7_share_175 : decode cX7_share 175 = .ok (.idiv, 1) := by decide +kernel
theorem dX7_share_176 : decode cX7_share 176 = .ok (.ireturn, 1) := by decide +kernel
theorem dX7_gain_0 : decode cX7_gain 0 = .ok (.aload_n 0, 1) := by decide +kernel
theorem dX7_gain_1 : decode cX7_gain 1 = .ok (.invokevirtual 174, 3) := by decide +kernel
theorem dX7_gain_4 : decode cX7_gain 4 = .ok (.aload_n 0, 1) := by decide +kernel
theorem dX7_gain_5 : decode cX7_gain 5 = .ok (.invokevirtual 140, 3) := by decide +kernel
theorem dX7_gain_8 : decode cX7_gain 8 = .ok (.aload_n 0, 1) := by decide +kernel
theorem dX7_gain_9 : decode cX7_gain 9 = .ok (.getfield 49, 3) := by decide +kernel
theorem dX7_gain_12 : decode cX7_gain 12 = .ok (.iload_n 1, 1) := by decide +kernel
theorem dX7_gain_13 : decode cX7_gain 13 = .ok (.iconst 3, 1) := by decide +kernel
theorem dX7_gain_14 : decode cX7_gain 14 = .ok (.iload_n 3, 1) := by decide +kernel
theorem dX7_gain_15 : decode cX7_gain 15 = .ok (.imul, 1) := by decide +kernel
theorem dX7_gain_16 : decode cX7_gain 16 = .ok (.iastore, 1) := by decide +kernel
theorem dX7_gain_17 : decode cX7_gain 17 = .ok (.aload_n 0, 1) := by decide +kernel
theorem dX7_gain_18 : decode cX7_gain 18 = .ok (.getfield 49, 3) := by decide +kernel
theorem dX7_gain_21 : decode cX7_gain 21 = .ok (.iload_n 2, 1) := by decide +kernel
theorem dX7_gain_22 : decode cX7_gain 22 = .ok (.iconst 3, 1) := by decide +kernel
theorem dX7_gain_23 : decode cX7_gain 23 = .ok (.iload 4, 2) := by decide +kernel
theorem dX7_gain_25 : decode cX7_gain 25 = .ok (.imul, 1) := by decide +kernel
theorem dX7_gain_26 : decode cX7_gain 26 = .ok (.iastore, 1) := by decide +kernel
theorem dX7_gain_27 : decode cX7_gain 27 = .ok (.aload_n 0, 1) := by decide +kernel
theorem dX7_gain_28 : decode cX7_gain 28 = .ok (.iconst 1, 1) := by decide +kernel
theorem dX7_gain_29 : decode cX7_gain 29 = .ok (.invokevirtual 143, 3) := by decide +kernel
theorem dX7_gain_32 : decode cX7_gain 32 = .ok (.pop, 1) := by decide +kernel
theorem dX7_gain_33 : decode cX7_gain 33 = .ok (.aload_n 0, 1) := by decide +kernel
theorem dX7_gain_34 : decode cX7_gain 34 = .ok (.iload_n 1, 1) := by decide +kernel
theorem dX7_gain_35 : decode cX7_gain 35 = .ok (.aload_n 0, 1) := by decide +kernel
theorem dX7_gain_36 : decode cX7_gain 36 = .ok (.getfield 34, 3) := by decide +kernel
theorem dX7_gain_39 : decode cX7_gain 39 = .ok (.bipush 9, 2) := by decide +kernel
theorem dX7_gain_41 : decode cX7_gain 41 = .ok (.iaload, 1) := by decide +kernel
theorem dX7_gain_42 : decode cX7_gain 42 = .ok (.invokevirtual 123, 3) := by decide +kernel
theorem dX7_gain_45 : decode cX7_gain 45 = .ok (.istore 5, 2) := by decide +kernel
theorem dX7_gain_47 : decode cX7_gain 47 = .ok (.iload 5, 2) := by decide +kernel
theorem dX7_gain_49 : decode cX7_gain 49 = .ok (.iload_n 2, 1) := by decide +kernel
theorem dX7_gain_50 : decode cX7_gain 50 = .ok (.invokestatic 119, 3) := by decide +kernel
theorem dX7_gain_53 : decode cX7_gain 53 = .ok (.ifCond .eq 7, 3) := by decide +kernel
theorem dX7_gain_56 : decode cX7_gain 56 = .ok (.iconst 0, 1) := by decide +kernel
theorem dX7_gain_57 : decode cX7_gain 57 = .ok (.goto 4, 3) := by decide +kernel
theorem dX7_gain_60 : decode cX7_gain 60 = .ok (.iconst 4, 1) := by decide +kernel
theorem dX7_gain_61 : decode cX7_gain 61 = .ok (.iload_n 3, 1) := by decide +kernel
theorem dX7_gain_62 : decode cX7_gain 62 = .ok (.isub, 1) := by decide +kernel
theorem dX7_gain_63 : decode cX7_gain 63 = .ok (.iload 5, 2) := by decide +kernel
theorem dX7_gain_65 : decode cX7_gain 65 = .ok (.iconst 1, 1) := by decide +kernel
theorem dX7_gain_66 : decode cX7_gain 66 = .ok (.iload_n 1, 1) := by decide +kernel
theorem dX7_gain_67 : decode cX7_gain 67 = .ok (.ishl, 1) := by decide +kernel
theorem dX7_gain_68 : decode cX7_gain 68 = .ok (.if_icmp .ne 7, 3) := by decide +kernel
theorem dX7_gain_71 : decode cX7_gain 71 = .ok (.iconst 2, 1) := by decide +kernel
theorem dX7_gain_72 : decode cX7_gain 72 = .ok (.goto 4, 3) := by decide +kernel
theorem dX7_gain_75 : decode cX7_gain 75 = .ok (.iconst 0, 1) := by decide +kernel
theorem dX7_gain_76 : decode cX7_gain 76 = .ok (.isub, 1) := by decide +kernel
theorem dX7_gain_77 : decode cX7_gain 77 = .ok (.ireturn, 1) := by decide +kernel
theorem dX7_isRest_0 : decode cX7_isRest 0 = .ok (.iconst 1, 1) := by decide +kernel
theorem dX7_isRest_1 : decode cX7_isRest 1 = .ok (.istore 5, 2) := by decide +kernel
theorem dX7_isRest_3 : decode cX7_isRest 3 = .ok (.iconst 0, 1) := by decide +kernel
theorem dX7_isRest_4 : decode cX7_isRest 4 = .ok (.istore 6, 2) := by decide +kernel
theorem dX7_isRest_6 : decode cX7_isRest 6 = .ok (.iload 6, 2) := by decide +kernel
theorem dX7_isRest_8 : decode cX7_isRest 8 = .ok (.iconst 3, 1) := by decide +kernel
theorem dX7_isRest_9 : decode cX7_isRest 9 = .ok (.if_icmp .ge 64, 3) := by decide +kernel
theorem dX7_isRest_12 : decode cX7_isRest 12 = .ok (.iload 5, 2) := by decide +kernel
theorem dX7_isRest_14 : decode cX7_isRest 14 = .ok (.ifCond .eq 50, 3) := by decide +kernel
theorem dX7_isRest_17 : decode cX7_isRest 17 = .ok (.aload_n 0, 1) := by decide +kernel
theorem dX7_isRest_18 : decode cX7_isRest 18 = .ok (.iload_n 1, 1) := by decide +kernel
theorem dX7_isRest_19 : decode cX7_isRest 19 = .ok (.iload_n 2, 1) := by decide +kernel
theorem dX7_isRest_20 : decode cX7_isRest 20 = .ok (.iload 6, 2) := by decide +kernel
theorem dX7_isRest_22 : decode cX7_isRest 22 = .ok (.iload 4, 2) := by decide +kernel
theorem dX7_isRest_24 : decode cX7_isRest 24 = .ok (.invokevirtual 208, 3) := by decide +kernel
theorem dX7_isRest_27 : decode cX7_isRest 27 = .ok (.aload_n 0, 1) := by decide +kernel
theorem dX7_isRest_28 : decode cX7_isRest 28 = .ok (.iload_n 1, 1) := by decide +kernel
theorem dX7_isRest_29 : decode cX7_isRest 29 = .ok (.iload_n 2, 1) := by decide +kernel
theorem dX7_isRest_30 : decode cX7_isRest 30 = .ok (.iload_n 3, 1) := by decide +kernel
theorem dX7_isRest_31 : decode cX7_isRest 31 = .ok (.iload 4, 2) := by decide +kernel
theorem dX7_isRest_33 : decode cX7_isRest 33 = .ok (.invokevirtual 208, 3) := by decide +kernel
theorem dX7_isRest_36 : decode cX7_isRest 36 = .ok (.if_icmp .gt 28, 3) := by decide +kernel
theorem dX7_isRest_39 : decode cX7_isRest 39 = .ok (.aload_n 0, 1) := by decide +kernel
theorem dX7_isRest_40 : decode cX7_isRest 40 = .ok (.iload_n 2, 1) := by decide +kernel
theorem dX7_isRest_41 : decode cX7_isRest 41 = .ok (.iload_n 1, 1) := by decide +kernel
theorem dX7_isRest_42 : decode cX7_isRest 42 = .ok (.iload 6, 2) := by decide +kernel
theorem dX7_isRest_44 : decode cX7_isRest 44 = .ok (.iload_n 3, 1) := by decide +kernel
theorem dX7_isRest_45 : decode cX7_isRest 45 = .ok (.invokevirtual 208, 3) := by decide +kernel
theorem dX7_isRest_48 : decode cX7_isRest 48 = .ok (.aload_n 0, 1) := by decide +kernel
theorem dX7_isRest_49 : decode cX7_isRest 49 = .ok (.iload_n 2, 1) := by decide +kernel
theorem dX7_isRest_50 : decode cX7_isRest 50 = .ok (.iload_n 1, 1) := by decide +kernel
theorem dX7_isRest_51 : decode cX7_isRest 51 = .ok (.iload 4, 2) := by decide +kernel
theorem dX7_isRest_53 : decode cX7_isRest 53 = .ok (.iload_n 3, 1) := by decide +kernel
theorem dX7_isRest_54 : decode cX7_isRest 54 = .ok (.invokevirtual 208, 3) := by decide +kernel
theorem dX7_isRest_57 : decode cX7_isRest 57 = .ok (.if_icmp .gt 7, 3) := by decide +kernel
theorem dX7_isRest_60 : decode cX7_isRest 60 = .ok (.iconst 1, 1) := by decide +kernel
theorem dX7_isRest_61 : decode cX7_isRest 61 = .ok (.goto 4, 3) := by decide +kernel
theorem dX7_isRest_64 : decode cX7_isRest 64 = .ok (.iconst 0, 1) := by decide +kernel
theorem dX7_isRest_65 : decode cX7_isRest 65 = .ok (.istore 5, 2) := by decide +kernel
theorem dX7_isRest_67 : decode cX7_isRest 67 = .ok (.iinc 6 1, 3) := by decide +kernel
theorem dX7_isRest_70 : decode cX7_isRest 70 = .ok (.goto (-64), 3) := by decide +kernel
theorem dX7_isRest_73 : decode cX7_isRest 73 = .ok (.iload 5, 2) := by decide +kernel
theorem dX7_isRest_75 : decode cX7_isRest 75 = .ok (.ireturn, 1) := by decide +kernel
theorem dX7_rests_0 : decode cX7_rests 0 = .ok (.iload_n 1, 1) := by decide +kernel
theorem dX7_rests_1 : decode cX7_rests 1 = .ok (.invokestatic 150, 3) := by decide +kernel
theorem dX7_rests_4 : decode cX7_rests 4 = .ok (.ifCond .eq 10, 3) := by decide +kernel
theorem dX7_rests_7 : decode cX7_rests 7 = .ok (.iload_n 2, 1) := by decide +kernel
theorem dX7_rests_8 : decode cX7_rests 8 = .ok (.invokestatic 150, 3) := by decide +kernel
theorem dX7_rests_11 : decode cX7_rests 11 = .ok (.ifCond .ne 5, 3) := by decide +kernel
theorem dX7_rests_14 : decode cX7_rests 14 = .ok (.iconst (-1), 1) := by decide +kernel
theorem dX7_rests_15 : decode cX7_rests 15 = .ok (.ireturn, 1) := by decide +kernel
theorem dX7_rests_16 : decode cX7_rests 16 = .ok (.iload_n 1, 1) := by decide +kernel
theorem dX7_rests_17 : decode cX7_rests 17 = .ok (.iload_n 2, 1) := by decide +kernel
theorem dX7_rests_18 : decode cX7_rests 18 = .ok (.if_icmp .eq 13, 3) := by decide +kernel
theorem dX7_rests_21 : decode cX7_rests 21 = .ok (.iload_n 3, 1) := by decide +kernel
theorem dX7_rests_22 : decode cX7_rests 22 = .ok (.i2l, 1) := by decide +kernel
theorem dX7_rests_23 : decode cX7_rests 23 = .ok (.lconst 0, 1) := by decide +kernel
theorem dX7_rests_24 : decode cX7_rests 24 = .ok (.lconst 1, 1) := by decide +kernel
theorem dX7_rests_25 : decode cX7_rests 25 = .ok (.invokestatic 70, 3) := by decide +kernel
theorem dX7_rests_28 : decode cX7_rests 28 = .ok (.ifCond .ne 6, 3) := by decide +kernel
theorem dX7_rests_31 : decode cX7_rests 31 = .ok (.bipush (-2), 2) := by decide +kernel
theorem dX7_rests_33 : decode cX7_rests 33 = .ok (.ireturn, 1) := by decide +kernel
theorem dX7_rests_34 : decode cX7_rests 34 = .ok (.iconst 0, 1) := by decide +kernel
theorem dX7_rests_35 : decode cX7_rests 35 = .ok (.istore 4, 2) := by decide +kernel
theorem dX7_rests_37 : decode cX7_rests 37 = .ok (.bipush (-9), 2) := by decide +kernel
theorem dX7_rests_39 : decode cX7_rests 39 = .ok (.istore 5, 2) := by decide +kernel
theorem dX7_rests_41 : decode cX7_rests 41 = .ok (.iconst 0, 1) := by decide +kernel
theorem dX7_rests_42 : decode cX7_rests 42 = .ok (.istore 6, 2) := by decide +kernel
theorem dX7_rests_44 : decode cX7_rests 44 = .ok (.iload 6, 2) := by decide +kernel
theorem dX7_rests_46 : decode cX7_rests 46 = .ok (.bipush 9, 2) := by decide +kernel
theorem dX7_rests_48 : decode cX7_rests 48 = .ok (.if_icmp .ge 53, 3) := by decide +kernel
theorem dX7_rests_51 : decode cX7_rests 51 = .ok (.aload_n 0, 1) := by decide +kernel
theorem dX7_rests_52 : decode cX7_rests 52 = .ok (.iload_n 1, 1) := by decide +kernel
theorem dX7_rests_53 : decode cX7_rests 53 = .ok (.iload_n 2, 1) := by decide +kernel
theorem dX7_rests_54 : decode cX7_rests 54 = .ok (.iload 6, 2) := by decide +kernel
theorem dX7_rests_56 : decode cX7_rests 56 = .ok (.iconst 3, 1) := by decide +kernel
theorem dX7_rests_57 : decode cX7_rests 57 = .ok (.idiv, 1) := by decide +kernel
theorem dX7_rests_58 : decode cX7_rests 58 = .ok (.iload 6, 2) := by decide +kernel
theorem dX7_rests_60 : decode cX7_rests 60 = .ok (.iconst 3, 1) := by decide +kernel
theorem dX7_rests_61 : decode cX7_rests 61 = .ok (.irem, 1) := by decide +kernel
theorem dX7_rests_62 : decode cX7_rests 62 = .ok (.invokevirtual 212, 3) := by decide +kernel
theorem dX7_rests_65 : decode cX7_rests 65 = .ok (.ifCond .eq 30, 3) := by decide +kernel
theorem dX7_rests_68 : decode cX7_rests 68 = .ok (.iload 4, 2) := by decide +kernel
theorem dX7_rests_70 : decode cX7_rests 70 = .ok (.ifCond .ne 18, 3) := by decide +kernel
theorem dX7_rests_73 : decode cX7_rests 73 = .ok (.bipush 10, 2) := by decide +kernel
theorem dX7_rests_75 : decode cX7_rests 75 = .ok (.iload 6, 2) := by decide +kernel
theorem dX7_rests_77 : decode cX7_rests 77 = .ok (.iconst 3, 1) := by decide +kernel
theorem dX7_rests_78 : decode cX7_rests 78 = .ok (.idiv, 1) := by decide +kernel
theorem dX7_rests_79 : decode cX7_rests 79 = .ok (.imul, 1) := by decide +kernel
theorem dX7_rests_80 : decode cX7_rests 80 = .ok (.iload 6, 2) := by decide +kernel
theorem dX7_rests_82 : decode cX7_rests 82 = .ok (.iconst 3, 1) := by decide +kernel
theorem dX7_rests_83 : decode cX7_rests 83 = .ok (.irem, 1) := by decide +kernel
theorem dX7_rests_84 : decode cX7_rests 84 = .ok (.iadd, 1) := by decide +kernel
theorem dX7_rests_85 : decode cX7_rests 85 = .ok (.goto 5, 3) := by decide +kernel
theorem dX7_rests_88 : decode cX7_rests 88 = .ok (.iload 5, 2) := by decide +kernel
theorem dX7_rests_90 : decode cX7_rests 90 = .ok (.istore 5, 2) := by decide +kernel
theorem dX7_rests_92 : decode cX7_rests 92 = .ok (.iinc 4 1, 3) := by decide +kernel
theorem dX7_rests_95 : decode cX7_rests 95 = .ok (.iinc 6 1, 3) := by decide +kernel
theorem dX7_rests_98 : decode cX7_rests 98 = .ok (.goto (-54), 3) := by decide +kernel
theorem dX7_rests_101 : decode cX7_rests 101 = .ok (.iload_n 3, 1) := by decide +kernel
theorem dX7_rests_102 : decode cX7_rests 102 = .ok (.ifCond .ne 8, 3) := by decide +kernel
theorem dX7_rests_105 : decode cX7_rests 105 = .ok (.iload 4, 2) := by decide +kernel
theorem dX7_rests_107 : decode cX7_rests 107 = .ok (.goto 5, 3) := by decide +kernel
theorem dX7_rests_110 : decode cX7_rests 110 = .ok (.iload 5, 2) := by decide +kernel
theorem dX7_rests_112 : decode cX7_rests 112 = .ok (.ireturn, 1) := by decide +kernel
theorem dX7_power_0 : decode cX7_power 0 = .ok (.iconst 1, 1) := by decide +kernel
theorem dX7_power_1 : decode cX7_power 1 = .ok (.istore_n 2, 1) := by decide +kernel
theorem dX7_power_2 : decode cX7_power 2 = .ok (.iconst 0, 1) := by decide +kernel
theorem dX7_power_3 : decode cX7_power 3 = .ok (.istore_n 3, 1) := by decide +kernel
theorem dX7_power_4 : decode cX7_power 4 = .ok (.iload_n 3, 1) := by decide +kernel
theorem dX7_power_5 : decode cX7_power 5 = .ok (.iload_n 1, 1) := by decide +kernel
theorem dX7_power_6 : decode cX7_power 6 = .ok (.if_icmp .ge 13, 3) := by decide +kernel
theorem dX7_power_9 : decode cX7_power 9 = .ok (.iload_n 2, 1) := by decide +kernel
theorem dX7_power_10 : decode cX7_power 10 = .ok (.iload_n 0, 1) := by decide +kernel
theorem dX7_power_11 : decode cX7_power 11 = .ok (.imul, 1) := by decide +kernel
theorem dX7_power_12 : decode cX7_power 12 = .ok (.istore_n 2, 1) := by decide +kernel
theorem dX7_power_13 : decode cX7_power 13 = .ok (.iinc 3 1, 3) := by decide +kernel
theorem dX7_power_16 : decode cX7_power 16 = .ok (.goto (-12), 3) := by decide +kernel
theorem dX7_power_19 : decode cX7_power 19 = .ok (.iload_n 2, 1) := by decide +kernel
theorem dX7_power_20 : decode cX7_power 20 = .ok (.ireturn, 1) := by decide +kernel
theorem dX7_gives_0 : decode cX7_gives 0 = .ok (.iload_n 1, 1) := by decide +kernel
theorem dX7_gives_1 : decode cX7_gives 1 = .ok (.invokestatic 150, 3) := by decide +kernel
theorem dX7_gives_4 : decode cX7_gives 4 = .ok (.ifCond .eq 10, 3) := by decide +kernel
theorem dX7_gives_7 : decode cX7_gives 7 = .ok (.iload_n 2, 1) := by decide +kernel
theorem dX7_gives_8 : decode cX7_gives 8 = .ok (.invokestatic 150, 3) := by decide +kernel
theorem dX7_gives_11 : decode cX7_gives 11 = .ok (.ifCond .ne 5, 3) := by decide +kernel
theorem dX7_gives_14 : decode cX7_gives 14 = .ok (.iconst (-1), 1) := by decide +kernel
theorem dX7_gives_15 : decode cX7_gives 15 = .ok (.ireturn, 1) := by decide +kernel
theorem dX7_gives_16 : decode cX7_gives 16 = .ok (.iload_n 1, 1) := by decide +kernel
theorem dX7_gives_17 : decode cX7_gives 17 = .ok (.iload_n 2, 1) := by decide +kernel
theorem dX7_gives_18 : decode cX7_gives 18 = .ok (.if_icmp .eq 15, 3) := by decide +kernel
theorem dX7_gives_21 : decode cX7_gives 21 = .ok (.iload_n 3, 1) := by decide +kernel
theorem dX7_gives_22 : decode cX7_gives 22 = .ok (.i2l, 1) := by decide +kernel
theorem dX7_gives_23 : decode cX7_gives 23 = .ok (.lconst 0, 1) := by decide +kernel
theorem dX7_gives_24 : decode cX7_gives 24 = .ok (.ldc2_w 216, 3) := by decide +kernel
theorem dX7_gives_27 : decode cX7_gives 27 = .ok (.invokestatic 70, 3) := by decide +kernel
theorem dX7_gives_30 : decode cX7_gives 30 = .ok (.ifCond .ne 6, 3) := by decide +kernel
theorem dX7_gives_33 : decode cX7_gives 33 = .ok (.bipush (-2), 2) := by decide +kernel
theorem dX7_gives_35 : decode cX7_gives 35 = .ok (.ireturn, 1) := by decide +kernel
theorem dX7_gives_36 : decode cX7_gives 36 = .ok (.aload_n 0, 1) := by decide +kernel
theorem dX7_gives_37 : decode cX7_gives 37 = .ok (.invokevirtual 177, 3) := by decide +kernel
theorem dX7_gives_40 : decode cX7_gives 40 = .ok (.aload_n 0, 1) := by decide +kernel
theorem dX7_gives_41 : decode cX7_gives 41 = .ok (.getfield 34, 3) := by decide +kernel
theorem dX7_gives_44 : decode cX7_gives 44 = .ok (.iconst 0, 1) := by decide +kernel
theorem dX7_gives_45 : decode cX7_gives 45 = .ok (.iaload, 1) := by decide +kernel
theorem dX7_gives_46 : decode cX7_gives 46 = .ok (.iconst (-1), 1) := by decide +kernel
theorem dX7_gives_47 : decode cX7_gives 47 = .ok (.ixor, 1) := by decide +kernel
theorem dX7_gives_48 : decode cX7_gives 48 = .ok (.iand, 1) := by decide +kernel
theorem dX7_gives_49 : decode cX7_gives 49 = .ok (.istore 5, 2) := by decide +kernel
theorem dX7_gives_51 : decode cX7_gives 51 = .ok (.iconst 0, 1) := by decide +kernel
theorem dX7_gives_52 : decode cX7_gives 52 = .ok (.istore 6, 2) := by decide +kernel
theorem dX7_gives_54 : decode cX7_gives 54 = .ok (.iconst 0, 1) := by decide +kernel
theorem dX7_gives_55 : decode cX7_gives 55 = .ok (.istore 7, 2) := by decide +kernel
theorem dX7_gives_57 : decode cX7_gives 57 = .ok (.iconst 0, 1) := by decide +kernel
theorem dX7_gives_58 : decode cX7_gives 58 = .ok (.istore 8, 2) := by decide +kernel
theorem dX7_gives_60 : decode cX7_gives 60 = .ok (.iload 8, 2) := by decide +kernel
theorem dX7_gives_62 : decode cX7_gives 62 = .ok (.iconst 1, 1) := by decide +kernel
theorem dX7_gives_63 : decode cX7_gives 63 = .ok (.aload_n 0, 1) := by decide +kernel
theorem dX7_gives_64 : decode cX7_gives 64 = .ok (.getfield 105, 3) := by decide +kernel
theorem dX7_gives_67 : decode cX7_gives 67 = .ok (.ishl, 1) := by decide +kernel
theorem dX7_gives_68 : decode cX7_gives 68 = .ok (.if_icmp .ge 85, 3) := by decide +kernel
theorem dX7_gives_71 : decode cX7_gives 71 = .ok (.iload 8, 2) := by decide +kernel
theorem dX7_gives_73 : decode cX7_gives 73 = .ok (.iload 5, 2) := by decide +kernel
theorem dX7_gives_75 : decode cX7_gives 75 = .ok (.iconst (-1), 1) := by decide +kernel
theorem dX7_gives_76 : decode cX7_gives 76 = .ok (.ixor, 1) := by decide +kernel
theorem dX7_gives_77 : decode cX7_gives 77 = .ok (.iand, 1) := by decide +kernel
theorem dX7_gives_78 : decode cX7_gives 78 = .ok (.ifCond .ne 69, 3) := by decide +kernel
theorem dX7_gives_81 : decode cX7_gives 81 = .ok (.iload_n 3, 1) := by decide +kernel
theorem dX7_gives_82 : decode cX7_gives 82 = .ok (.iload 8, 2) := by decide +kernel
theorem dX7_gives_84 : decode cX7_gives 84 = .ok (.invokestatic 137, 3) := by decide +kernel
theorem dX7_gives_87 : decode cX7_gives 87 = .ok (.invokestatic 218, 3) := by decide +kernel
theorem dX7_gives_90 : decode cX7_gives 90 = .ok (.bipush 10, 2) := by decide +kernel
theorem dX7_gives_92 : decode cX7_gives 92 = .ok (.iload_n 3, 1) := by decide +kernel
theorem dX7_gives_93 : decode cX7_gives 93 = .ok (.isub, 1) := by decide +kernel
theorem dX7_gives_94 : decode cX7_gives 94 = .ok (.iload 5, 2) := by decide +kernel
theorem dX7_gives_96 : decode cX7_gives 96 = .ok (.invokestatic 137, 3) := by decide +kernel
theorem dX7_gives_99 : decode cX7_gives 99 = .ok (.iload 8, 2) := by decide +kernel
theorem dX7_gives_101 : decode cX7_gives 101 = .ok (.invokestatic 137, 3) := by decide +kernel
theorem dX7_gives_104 : decode cX7_gives 104 = .ok (.isub, 1) := by decide +kernel
theorem dX7_gives_105 : decode cX7_gives 105 = .ok (.invokestatic 218, 3) := by decide +kernel
theorem dX7_gives_108 : decode cX7_gives 108 = .ok (.imul, 1) := by decide +kernel
theorem dX7_gives_109 : decode cX7_gives 109 = .ok (.istore 9, 2) := by decide +kernel
theorem dX7_gives_111 : decode cX7_gives 111 = .ok (.iload 7, 2) := by decide +kernel
theorem dX7_gives_113 : decode cX7_gives 113 = .ok (.iload 9, 2) := by decide +kernel
theorem dX7_gives_115 : decode cX7_gives 115 = .ok (.iadd, 1) := by decide +kernel
theorem dX7_gives_116 : decode cX7_gives 116 = .ok (.istore 7, 2) := by decide +kernel
theorem dX7_gives_118 : decode cX7_gives 118 = .ok (.iload 6, 2) := by decide +kernel
theorem dX7_gives_120 : decode cX7_gives 120 = .ok (.aload_n 0, 1) := by decide +kernel
theorem dX7_gives_121 : decode cX7_gives 121 = .ok (.iload_n 1, 1) := by decide +kernel
theorem dX7_gives_122 : decode cX7_gives 122 = .ok (.iload_n 2, 1) := by decide +kernel
theorem dX7_gives_123 : decode cX7_gives 123 = .ok (.aload_n 0, 1) := by decide +kernel
theorem dX7_gives_124 : decode cX7_gives 124 = .ok (.getfield 34, 3) := by decide +kernel
theorem dX7_gives_127 : decode cX7_gives 127 = .ok (.iconst 0, 1) := by decide +kernel
theorem dX7_gives_128 : decode cX7_gives 128 = .ok (.iaload, 1) := by decide +kernel
theorem dX7_gives_129 : decode cX7_gives 129 = .ok (.iload 8, 2) := by decide +kernel
theorem dX7_gives_131 : decode cX7_gives 131 = .ok (.ior, 1) := by decide +kernel
theorem dX7_gives_132 : decode cX7_gives 132 = .ok (.invokevirtual 126, 3) := by decide +kernel
theorem dX7_gives_135 : decode cX7_gives 135 = .ok (.ifCond .eq 8, 3) := by decide +kernel
theorem dX7_gives_138 : decode cX7_gives 138 = .ok (.iload 9, 2) := by decide +kernel
theorem dX7_gives_140 : decode cX7_gives 140 = .ok (.goto 4, 3) := by decide +kernel
theorem dX7_gives_143 : decode cX7_gives 143 = .ok (.iconst 0, 1) := by decide +kernel
theorem dX7_gives_144 : decode cX7_gives 144 = .ok (.iadd, 1) := by decide +kernel
theorem dX7_gives_145 : decode cX7_gives 145 = .ok (.istore 6, 2) := by decide +kernel
theorem dX7_gives_147 : decode cX7_gives 147 = .ok (.iinc 8 1, 3) := by decide +kernel
theorem dX7_gives_150 : decode cX7_gives 150 = .ok (.goto (-90), 3) := by decide +kernel
theorem dX7_gives_153 : decode cX7_gives 153 = .ok (.iload 6, 2) := by decide +kernel
theorem dX7_gives_155 : decode cX7_gives 155 = .ok (.iload 7, 2) := by decide +kernel
theorem dX7_gives_157 : decode cX7_gives 157 = .ok (.invokestatic 205, 3) := by decide +kernel
theorem dX7_gives_160 : decode cX7_gives 160 = .ok (.istore 8, 2) := by decide +kernel
theorem dX7_gives_162 : decode cX7_gives 162 = .ok (.iload 4, 2) := by decide +kernel
theorem dX7_gives_164 : decode cX7_gives 164 = .ok (.ifCond .eq 11, 3) := by decide +kernel
theorem dX7_gives_167 : decode cX7_gives 167 = .ok (.iload 6, 2) := by decide +kernel
theorem dX7_gives_169 : decode cX7_gives 169 = .ok (.iload 8, 2) := by decide +kernel
theorem dX7_gives_171 : decode cX7_gives 171 = .ok (.idiv, 1) := by decide +kernel
theorem dX7_gives_172 : decode cX7_gives 172 = .ok (.goto 8, 3) := by decide +kernel
theorem dX7_gives_175 : decode cX7_gives 175 = .ok (.iload 7, 2) := by decide +kernel
theorem dX7_gives_177 : decode cX7_gives 177 = .ok (.iload 8, 2) := by decide +kernel
theorem dX7_gives_179 : decode cX7_gives 179 = .ok (.idiv, 1) := by decide +kernel
theorem dX7_gives_180 : decode cX7_gives 180 = .ok (.ireturn, 1) := by decide +kernel
theorem dX7_seed_0 : decode cX7_seed 0 = .ok (.aload_n 0, 1) := by decide +kernel
theorem dX7_seed_1 : decode cX7_seed 1 = .ok (.getfield 221, 3) := by decide +kernel
theorem dX7_seed_4 : decode cX7_seed 4 = .ok (.lstore_n 3, 1) := by decide +kernel
theorem dX7_seed_5 : decode cX7_seed 5 = .ok (.aload_n 0, 1) := by decide +kernel
theorem dX7_seed_6 : decode cX7_seed 6 = .ok (.lload_n 1, 1) := by decide +kernel
theorem dX7_seed_7 : decode cX7_seed 7 = .ok (.putfield 221, 3) := by decide +kernel
theorem dX7_seed_10 : decode cX7_seed 10 = .ok (.lload_n 3, 1) := by decide +kernel
theorem dX7_seed_11 : decode cX7_seed 11 = .ok (.lreturn, 1) := by decide +kernel
theorem dX7_seasons_0 : decode cX7_seasons 0 = .ok (.iload_n 1, 1) := by decide +kernel
theorem dX7_seasons_1 : decode cX7_seasons 1 = .ok (.i2l, 1) := by decide +kernel
theorem dX7_seasons_2 : decode cX7_seasons 2 = .ok (.lconst 1, 1) := by decide +kernel
theorem dX7_seasons_3 : decode cX7_seasons 3 = .ok (.ldc2_w 225, 3) := by decide +kernel
theorem dX7_seasons_6 : decode cX7_seasons 6 = .ok (.invokestatic 70, 3) := by decide +kernel
theorem dX7_seasons_9 : decode cX7_seasons 9 = .ok (.ifCond .ne 6, 3) := by decide +kernel
theorem dX7_seasons_12 : decode cX7_seasons 12 = .ok (.bipush (-2), 2) := by decide +kernel
theorem dX7_seasons_14 : decode cX7_seasons 14 = .ok (.ireturn, 1) := by decide +kernel
theorem dX7_seasons_15 : decode cX7_seasons 15 = .ok (.aload_n 0, 1) := by decide +kernel
theorem dX7_seasons_16 : decode cX7_seasons 16 = .ok (.invokevirtual 174, 3) := by decide +kernel
theorem dX7_seasons_19 : decode cX7_seasons 19 = .ok (.iconst 0, 1) := by decide +kernel
theorem dX7_seasons_20 : decode cX7_seasons 20 = .ok (.istore_n 2, 1) := by decide +kernel
theorem dX7_seasons_21 : decode cX7_seasons 21 = .ok (.iconst 0, 1) := by decide +kernel
theorem dX7_seasons_22 : decode cX7_seasons 22 = .ok (.istore_n 3, 1) := by decide +kernel
theorem dX7_seasons_23 : decode cX7_seasons 23 = .ok (.iload_n 3, 1) := by decide +kernel
theorem dX7_seasons_24 : decode cX7_seasons 24 = .ok (.iload_n 1, 1) := by decide +kernel
theorem dX7_seasons_25 : decode cX7_seasons 25 = .ok (.if_icmp .ge 120, 3) := by decide +kernel
theorem dX7_seasons_28 : decode cX7_seasons 28 = .ok (.aload_n 0, 1) := by decide +kernel
theorem dX7_seasons_29 : decode cX7_seasons 29 = .ok (.aload_n 0, 1) := by decide +kernel
theorem dX7_seasons_30 : decode cX7_seasons 30 = .ok (.getfield 221, 3) := by decide +kernel
theorem dX7_seasons_33 : decode cX7_seasons 33 = .ok (.ldc2_w 227, 3) := by decide +kernel
theorem dX7_seasons_36 : decode cX7_seasons 36 = .ok (.lmul, 1) := by decide +kernel
theorem dX7_seasons_37 : decode cX7_seasons 37 = .ok (.ldc2_w 229, 3) := by decide +kernel
theorem dX7_seasons_40 : decode cX7_seasons 40 = .ok (.ladd, 1) := by decide +kernel
theorem dX7_seasons_41 : decode cX7_seasons 41 = .ok (.putfield 221, 3) := by decide +kernel
theorem dX7_seasons_44 : decode cX7_seasons 44 = .ok (.aload_n 0, 1) := by decide +kernel
theorem dX7_seasons_45 : decode cX7_seasons 45 = .ok (.getfield 221, 3) := by decide +kernel
theorem dX7_seasons_48 : decode cX7_seasons 48 = .ok (.bipush 33, 2) := by decide +kernel
theorem dX7_seasons_50 : decode cX7_seasons 50 = .ok (.lushr, 1) := by decide +kernel
theorem dX7_seasons_51 : decode cX7_seasons 51 = .ok (.ldc2_w 231, 3) := by decide +kernel
theorem dX7_seasons_54 : decode cX7_seasons 54 = .ok (.lrem, 1) := by decide +kernel
theorem dX7_seasons_55 : decode cX7_seasons 55 = .ok (.l2i, 1) := by decide +kernel
theorem dX7_seasons_56 : decode cX7_seasons 56 = .ok (.istore 4, 2) := by decide +kernel
theorem dX7_seasons_58 : decode cX7_seasons 58 = .ok (.iload 4, 2) := by decide +kernel
theorem dX7_seasons_60 : decode cX7_seasons 60 = .ok (.bipush 19, 2) := by decide +kernel
theorem dX7_seasons_62 : decode cX7_seasons 62 = .ok (.if_icmp .le 12, 3) := by decide +kernel
theorem dX7_seasons_65 : decode cX7_seasons 65 = .ok (.aload_n 0, 1) := by decide +kernel
theorem dX7_seasons_66 : decode cX7_seasons 66 = .ok (.iconst 1, 1) := by decide +kernel
theorem dX7_seasons_67 : decode cX7_seasons 67 = .ok (.invokevirtual 159, 3) := by decide +kernel
theorem dX7_seasons_70 : decode cX7_seasons 70 = .ok (.pop, 1) := by decide +kernel
theorem dX7_seasons_71 : decode cX7_seasons 71 = .ok (.goto 55, 3) := by decide +kernel
theorem dX7_seasons_74 : decode cX7_seasons 74 = .ok (.iload 4, 2) := by decide +kernel
theorem dX7_seasons_76 : decode cX7_seasons 76 = .ok (.bipush 12, 2) := by decide +kernel
theorem dX7_seasons_78 : decode cX7_seasons 78 = .ok (.if_icmp .le 18, 3) := by decide +kernel
theorem dX7_seasons_81 : decode cX7_seasons 81 = .ok (.aload_n 0, 1) := by decide +kernel
theorem dX7_seasons_82 : decode cX7_seasons 82 = .ok (.iconst 3, 1) := by decide +kernel
theorem dX7_seasons_83 : decode cX7_seasons 83 = .ok (.iconst 0, 1) := by decide +kernel
theorem dX7_seasons_84 : decode cX7_seasons 84 = .ok (.iload 4, 2) := by decide +kernel
theorem dX7_seasons_86 : decode cX7_seasons 86 = .ok (.bipush 13, 2) := by decide +kernel
theorem dX7_seasons_88 : decode cX7_seasons 88 = .ok (.isub, 1) := by decide +kernel
theorem dX7_seasons_89 : decode cX7_seasons 89 = .ok (.invokevirtual 191, 3) := by decide +kernel
theorem dX7_seasons_92 : decode cX7_seasons 92 = .ok (.pop, 1) := by decide +kernel
theorem dX7_seasons_93 : decode cX7_seasons 93 = .ok (.goto 33, 3) := by decide +kernel
theorem dX7_seasons_96 : decode cX7_seasons 96 = .ok (.iload 4, 2) := by decide +kernel
theorem dX7_seasons_98 : decode cX7_seasons 98 = .ok (.iconst 5, 1) := by decide +kernel
theorem dX7_seasons_99 : decode cX7_seasons 99 = .ok (.if_icmp .le 18, 3) := by decide +kernel
theorem dX7_seasons_102 : decode cX7_seasons 102 = .ok (.aload_n 0, 1) := by decide +kernel
theorem dX7_seasons_103 : decode cX7_seasons 103 = .ok (.iconst 2, 1) := by decide +kernel
theorem dX7_seasons_104 : decode cX7_seasons 104 = .ok (.iconst 0, 1) := by decide +kernel
theorem dX7_seasons_105 : decode cX7_seasons 105 = .ok (.iload 4, 2) := by decide +kernel
theorem dX7_seasons_107 : decode cX7_seasons 107 = .ok (.bipush 6, 2) := by decide +kernel
theorem dX7_seasons_109 : decode cX7_seasons 109 = .ok (.isub, 1) := by decide +kernel
theorem dX7_seasons_110 : decode cX7_seasons 110 = .ok (.invokevirtual 191, 3) := by decide +kernel
theorem dX7_seasons_113 : decode cX7_seasons 113 = .ok (.pop, 1) := by decide +kernel
theorem dX7_seasons_114 : decode cX7_seasons 114 = .ok (.goto 12, 3) := by decide +kernel
theorem dX7_seasons_117 : decode cX7_seasons 117 = .ok (.aload_n 0, 1) := by decide +kernel
theorem dX7_seasons_118 : decode cX7_seasons 118 = .ok (.iconst 1, 1) := by decide +kernel
theorem dX7_seasons_119 : decode cX7_seasons 119 = .ok (.iload 4, 2) := by decide +kernel
theorem dX7_seasons_121 : decode cX7_seasons 121 = .ok (.iconst 4, 1) := by decide +kernel
theorem dX7_seasons_122 : decode cX7_seasons 122 = .ok (.invokevirtual 164, 3) := by decide +kernel
theorem dX7_seasons_125 : decode cX7_seasons 125 = .ok (.pop, 1) := by decide +kernel
theorem dX7_seasons_126 : decode cX7_seasons 126 = .ok (.iload_n 2, 1) := by decide +kernel
theorem dX7_seasons_127 : decode cX7_seasons 127 = .ok (.aload_n 0, 1) := by decide +kernel
theorem dX7_seasons_128 : decode cX7_seasons 128 = .ok (.getfield 34, 3) := by decide +kernel
theorem dX7_seasons_131 : decode cX7_seasons 131 = .ok (.bipush 9, 2) := by decide +kernel
theorem dX7_seasons_133 : decode cX7_seasons 133 = .ok (.iaload, 1) := by decide +kernel
theorem dX7_seasons_134 : decode cX7_seasons 134 = .ok (.invokestatic 137, 3) := by decide +kernel
theorem dX7_seasons_137 : decode cX7_seasons 137 = .ok (.iadd, 1) := by decide +kernel
theorem dX7_seasons_138 : decode cX7_seasons 138 = .ok (.istore_n 2, 1) := by decide +kernel
theorem dX7_seasons_139 : decode cX7_seasons 139 = .ok (.iinc 3 1, 3) := by decide +kernel
theorem dX7_seasons_142 : decode cX7_seasons 142 = .ok (.goto (-119), 3) := by decide +kernel
theorem dX7_seasons_145 : decode cX7_seasons 145 = .ok (.iload_n 2, 1) := by decide +kernel
theorem dX7_seasons_146 : decode cX7_seasons 146 = .ok (.ireturn, 1) := by decide +kernel
theorem dX7_keep_0 : decode cX7_keep 0 = .ok (.iload_n 1, 1) := by decide +kernel
theorem dX7_keep_1 : decode cX7_keep 1 = .ok (.i2l, 1) := by decide +kernel
theorem dX7_keep_2 : decode cX7_keep 2 = .ok (.lconst 0, 1) := by decide +kernel
theorem dX7_keep_3 : decode cX7_keep 3 = .ok (.lconst 1, 1) := by decide +kernel
theorem dX7_keep_4 : decode cX7_keep 4 = .ok (.invokestatic 70, 3) := by decide +kernel
theorem dX7_keep_7 : decode cX7_keep 7 = .ok (.ifCond .ne 5, 3) := by decide +kernel
theorem dX7_keep_10 : decode cX7_keep 10 = .ok (.iconst (-1), 1) := by decide +kernel
theorem dX7_keep_11 : decode cX7_keep 11 = .ok (.ireturn, 1) := by decide +kernel
theorem dX7_keep_12 : decode cX7_keep 12 = .ok (.aload_n 0, 1) := by decide +kernel
theorem dX7_keep_13 : decode cX7_keep 13 = .ok (.getfield 61, 3) := by decide +kernel
theorem dX7_keep_16 : decode cX7_keep 16 = .ok (.iload_n 1, 1) := by decide +kernel
theorem dX7_keep_17 : decode cX7_keep 17 = .ok (.iconst 1, 1) := by decide +kernel
theorem dX7_keep_18 : decode cX7_keep 18 = .ok (.bastore, 1) := by decide +kernel
theorem dX7_keep_19 : decode cX7_keep 19 = .ok (.iconst 0, 1) := by decide +kernel
theorem dX7_keep_20 : decode cX7_keep 20 = .ok (.istore_n 2, 1) := by decide +kernel
theorem dX7_keep_21 : decode cX7_keep 21 = .ok (.iload_n 2, 1) := by decide +kernel
theorem dX7_keep_22 : decode cX7_keep 22 = .ok (.bipush 9, 2) := by decide +kernel
theorem dX7_keep_24 : decode cX7_keep 24 = .ok (.if_icmp .ge 26, 3) := by decide +kernel
theorem dX7_keep_27 : decode cX7_keep 27 = .ok (.aload_n 0, 1) := by decide +kernel
theorem dX7_keep_28 : decode cX7_keep 28 = .ok (.getfield 65, 3) := by decide +kernel
theorem dX7_keep_31 : decode cX7_keep 31 = .ok (.bipush 9, 2) := by decide +kernel
theorem dX7_keep_33 : decode cX7_keep 33 = .ok (.iload_n 1, 1) := by decide +kernel
theorem dX7_keep_34 : decode cX7_keep 34 = .ok (.imul, 1) := by decide +kernel
theorem dX7_keep_35 : decode cX7_keep 35 = .ok (.iload_n 2, 1) := by decide +kernel
theorem dX7_keep_36 : decode cX7_keep 36 = .ok (.iadd, 1) := by decide +kernel
theorem dX7_keep_37 : decode cX7_keep 37 = .ok (.aload_n 0, 1) := by decide +kernel
theorem dX7_keep_38 : decode cX7_keep 38 = .ok (.getfield 34, 3) := by decide +kernel
theorem dX7_keep_41 : decode cX7_keep 41 = .ok (.iload_n 2, 1) := by decide +kernel
theorem dX7_keep_42 : decode cX7_keep 42 = .ok (.iaload, 1) := by decide +kernel
theorem dX7_keep_43 : decode cX7_keep 43 = .ok (.iastore, 1) := by decide +kernel
theorem dX7_keep_44 : decode cX7_keep 44 = .ok (.iinc 2 1, 3) := by decide +kernel
theorem dX7_keep_47 : decode cX7_keep 47 = .ok (.goto (-26), 3) := by decide +kernel
theorem dX7_keep_50 : decode cX7_keep 50 = .ok (.aload_n 0, 1) := by decide +kernel
theorem dX7_keep_51 : decode cX7_keep 51 = .ok (.getfield 34, 3) := by decide +kernel
theorem dX7_keep_54 : decode cX7_keep 54 = .ok (.bipush 8, 2) := by decide +kernel
theorem dX7_keep_56 : decode cX7_keep 56 = .ok (.iaload, 1) := by decide +kernel
theorem dX7_keep_57 : decode cX7_keep 57 = .ok (.ireturn, 1) := by decide +kernel
theorem dX7_again_0 : decode cX7_again 0 = .ok (.iload_n 1, 1) := by decide +kernel
theorem dX7_again_1 : decode cX7_again 1 = .ok (.i2l, 1) := by decide +kernel
theorem dX7_again_2 : decode cX7_again 2 = .ok (.lconst 0, 1) := by decide +kernel
theorem dX7_again_3 : decode cX7_again 3 = .ok (.lconst 1, 1) := by decide +kernel
theorem dX7_again_4 : decode cX7_again 4 = .ok (.invokestatic 70, 3) := by decide +kernel
theorem dX7_again_7 : decode cX7_again 7 = .ok (.ifCond .ne 5, 3) := by decide +kernel
theorem dX7_again_10 : decode cX7_again 10 = .ok (.iconst (-1), 1) := by decide +kernel
theorem dX7_again_11 : decode cX7_again 11 = .ok (.ireturn, 1) := by decide +kernel
theorem dX7_again_12 : decode cX7_again 12 = .ok (.aload_n 0, 1) := by decide +kernel
theorem dX7_again_13 : decode cX7_again 13 = .ok (.getfield 61, 3) := by decide +kernel
theorem dX7_again_16 : decode cX7_again 16 = .ok (.iload_n 1, 1) := by decide +kernel
theorem dX7_again_17 : decode cX7_again 17 = .ok (.baload, 1) := by decide +kernel
theorem dX7_again_18 : decode cX7_again 18 = .ok (.ifCond .ne 6, 3) := by decide +kernel
theorem dX7_again_21 : decode cX7_again 21 = .ok (.bipush (-3), 2) := by decide +kernel
theorem dX7_again_23 : decode cX7_again 23 = .ok (.ireturn, 1) := by decide +kernel
theorem dX7_again_24 : decode cX7_again 24 = .ok (.iconst 0, 1) := by decide +kernel
theorem dX7_again_25 : decode cX7_again 25 = .ok (.istore_n 2, 1) := by decide +kernel
theorem dX7_again_26 : decode cX7_again 26 = .ok (.iload_n 2, 1) := by decide +kernel
theorem dX7_again_27 : decode cX7_again 27 = .ok (.bipush 9, 2) := by decide +kernel
theorem dX7_again_29 : decode cX7_again 29 = .ok (.if_icmp .ge 26, 3) := by decide +kernel
theorem dX7_again_32 : decode cX7_again 32 = .ok (.aload_n 0, 1) := by decide +kernel
theorem dX7_again_33 : decode cX7_again 33 = .ok (.getfield 34, 3) := by decide +kernel
theorem dX7_again_36 : decode cX7_again 36 = .ok (.iload_n 2, 1) := by decide +kernel
theorem dX7_again_37 : decode cX7_again 37 = .ok (.aload_n 0, 1) := by decide +kernel
theorem dX7_again_38 : decode cX7_again 38 = .ok (.getfield 65, 3) := by decide +kernel
theorem dX7_again_41 : decode cX7_again 41 = .ok (.bipush 9, 2) := by decide +kernel
theorem dX7_again_43 : decode cX7_again 43 = .ok (.iload_n 1, 1) := by decide +kernel
theorem dX7_again_44 : decode cX7_again 44 = .ok (.imul, 1) := by decide +kernel
theorem dX7_again_45 : decode cX7_again 45 = .ok (.iload_n 2, 1) := by decide +kernel
theorem dX7_again_46 : decode cX7_again 46 = .ok (.iadd, 1) := by decide +kernel
theorem dX7_again_47 : decode cX7_again 47 = .ok (.iaload, 1) := by decide +kernel
theorem dX7_again_48 : decode cX7_again 48 = .ok (.iastore, 1) := by decide +kernel
theorem dX7_again_49 : decode cX7_again 49 = .ok (.iinc 2 1, 3) := by decide +kernel
theorem dX7_again_52 : decode cX7_again 52 = .ok (.goto (-26), 3) := by decide +kernel
theorem dX7_again_55 : decode cX7_again 55 = .ok (.aload_n 0, 1) := by decide +kernel
theorem dX7_again_56 : decode cX7_again 56 = .ok (.iconst 0, 1) := by decide +kernel
theorem dX7_again_57 : decode cX7_again 57 = .ok (.putfield 114, 3) := by decide +kernel
theorem dX7_again_60 : decode cX7_again 60 = .ok (.aload_n 0, 1) := by decide +kernel
theorem dX7_again_61 : decode cX7_again 61 = .ok (.getfield 34, 3) := by decide +kernel
theorem dX7_again_64 : decode cX7_again 64 = .ok (.bipush 8, 2) := by decide +kernel
theorem dX7_again_66 : decode cX7_again 66 = .ok (.iaload, 1) := by decide +kernel
theorem dX7_again_67 : decode cX7_again 67 = .ok (.ireturn, 1) := by decide +kernel
theorem dX7_wearOfAll_0 : decode cX7_wearOfAll 0 = .ok (.iconst 0, 1) := by decide +kernel
theorem dX7_wearOfAll_1 : decode cX7_wearOfAll 1 = .ok (.istore_n 1, 1) := by decide +kernel
theorem dX7_wearOfAll_2 : decode cX7_wearOfAll 2 = .ok (.iconst 0, 1) := by decide +kernel
theorem dX7_wearOfAll_3 : decode cX7_wearOfAll 3 = .ok (.istore_n 2, 1) := by decide +kernel
theorem dX7_wearOfAll_4 : decode cX7_wearOfAll 4 = .ok (.iload_n 2, 1) := by decide +kernel
theorem dX7_wearOfAll_5 : decode cX7_wearOfAll 5 = .ok (.aload_n 0, 1) := by decide +kernel
theorem dX7_wearOfAll_6 : decode cX7_wearOfAll 6 = .ok (.getfield 105, 3) := by decide +kernel
theorem dX7_wearOfAll_9 : decode cX7_wearOfAll 9 = .ok (.if_icmp .ge 20, 3) := by decide +kernel
theorem dX7_wearOfAll_12 : decode cX7_wearOfAll 12 = .ok (.iload_n 1, 1) := by decide +kernel
theorem dX7_wearOfAll_13 : decode cX7_wearOfAll 13 = .ok (.aload_n 0, 1) := by decide +kernel
theorem dX7_wearOfAll_14 : decode cX7_wearOfAll 14 = .ok (.getfield 34, 3) := by decide +kernel
theorem dX7_wearOfAll_17 : decode cX7_wearOfAll 17 = .ok (.iconst 1, 1) := by decide +kernel
theorem dX7_wearOfAll_18 : decode cX7_wearOfAll 18 = .ok (.iload_n 2, 1) := by decide +kernel
theorem dX7_wearOfAll_19 : decode cX7_wearOfAll 19 = .ok (.iadd, 1) := by decide +kernel
theorem dX7_wearOfAll_20 : decode cX7_wearOfAll 20 = .ok (.iaload, 1) := by decide +kernel
theorem dX7_wearOfAll_21 : decode cX7_wearOfAll 21 = .ok (.iadd, 1) := by decide +kernel
theorem dX7_wearOfAll_22 : decode cX7_wearOfAll 22 = .ok (.istore_n 1, 1) := by decide +kernel
theorem dX7_wearOfAll_23 : decode cX7_wearOfAll 23 = .ok (.iinc 2 1, 3) := by decide +kernel
theorem dX7_wearOfAll_26 : decode cX7_wearOfAll 26 = .ok (.goto (-22), 3) := by decide +kernel
theorem dX7_wearOfAll_29 : decode cX7_wearOfAll 29 = .ok (.iload_n 1, 1) := by decide +kernel
theorem dX7_wearOfAll_30 : decode cX7_wearOfAll 30 = .ok (.ireturn, 1) := by decide +kernel
theorem dX7_count_0 : decode cX7_count 0 = .ok (.iload_n 1, 1) := by decide +kernel
theorem dX7_count_1 : decode cX7_count 1 = .ok (.tableswitch 131 0 10 #[59, 64, 69, 74, 79, 87, 94, 105, 116, 121, 126], 59) := by decide +kernel
theorem dX7_count_60 : decode cX7_count 60 = .ok (.aload_n 0, 1) := by decide +kernel
theorem dX7_count_61 : decode cX7_count 61 = .ok (.getfield 74, 3) := by decide +kernel
theorem dX7_count_64 : decode cX7_count 64 = .ok (.ireturn, 1) := by decide +kernel
theorem dX7_count_65 : decode cX7_count 65 = .ok (.aload_n 0, 1) := by decide +kernel
theorem dX7_count_66 : decode cX7_count 66 = .ok (.getfield 105, 3) := by decide +kernel
theorem dX7_count_69 : decode cX7_count 69 = .ok (.ireturn, 1) := by decide +kernel
theorem dX7_count_70 : decode cX7_count 70 = .ok (.aload_n 0, 1) := by decide +kernel
theorem dX7_count_71 : decode cX7_count 71 = .ok (.getfield 108, 3) := by decide +kernel
theorem dX7_count_74 : decode cX7_count 74 = .ok (.ireturn, 1) := by decide +kernel
theorem dX7_count_75 : decode cX7_count 75 = .ok (.aload_n 0, 1) := by decide +kernel
theorem dX7_count_76 : decode cX7_count 76 = .ok (.getfield 111, 3) := by decide +kernel
theorem dX7_count_79 : decode cX7_count 79 = .ok (.ireturn, 1) := by decide +kernel
theorem dX7_count_80 : decode cX7_count 80 = .ok (.aload_n 0, 1) := by decide +kernel
theorem dX7_count_81 : decode cX7_count 81 = .ok (.getfield 34, 3) := by decide +kernel
theorem dX7_count_84 : decode cX7_count 84 = .ok (.bipush 8, 2) := by decide +kernel
theorem dX7_count_86 : decode cX7_count 86 = .ok (.iaload, 1) := by decide +kernel
theorem dX7_count_87 : decode cX7_count 87 = .ok (.ireturn, 1) := by decide +kernel
theorem dX7_count_88 : decode cX7_count 88 = .ok (.aload_n 0, 1) := by decide +kernel
theorem dX7_count_89 : decode cX7_count 89 = .ok (.getfield 34, 3) := by decide +kernel
theorem dX7_count_92 : decode cX7_count 92 = .ok (.iconst 0, 1) := by decide +kernel
theorem dX7_count_93 : decode cX7_count 93 = .ok (.iaload, 1) := by decide +kernel
theorem dX7_count_94 : decode cX7_count 94 = .ok (.ireturn, 1) := by decide +kernel
theorem dX7_count_95 : decode cX7_count 95 = .ok (.aload_n 0, 1) := by decide +kernel
theorem dX7_count_96 : decode cX7_count 96 = .ok (.aload_n 0, 1) := by decide +kernel
theorem dX7_count_97 : decode cX7_count 97 = .ok (.getfield 34, 3) := by decide +kernel
theorem dX7_count_100 : decode cX7_count 100 = .ok (.iconst 0, 1) := by decide +kernel
theorem dX7_count_101 : decode cX7_count 101 = .ok (.iaload, 1) := by decide +kernel
theorem dX7_count_102 : decode cX7_count 102 = .ok (.invokevirtual 180, 3) := by decide +kernel
theorem dX7_count_105 : decode cX7_count 105 = .ok (.ireturn, 1) := by decide +kernel
theorem dX7_count_106 : decode cX7_count 106 = .ok (.aload_n 0, 1) := by decide +kernel
theorem dX7_count_107 : decode cX7_count 107 = .ok (.aload_n 0, 1) := by decide +kernel
theorem dX7_count_108 : decode cX7_count 108 = .ok (.getfield 34, 3) := by decide +kernel
theorem dX7_count_111 : decode cX7_count 111 = .ok (.iconst 0, 1) := by decide +kernel
theorem dX7_count_112 : decode cX7_count 112 = .ok (.iaload, 1) := by decide +kernel
theorem dX7_count_113 : decode cX7_count 113 = .ok (.invokevirtual 202, 3) := by decide +kernel
theorem dX7_count_116 : decode cX7_count 116 = .ok (.ireturn, 1) := by decide +kernel
theorem dX7_count_117 : decode cX7_count 117 = .ok (.aload_n 0, 1) := by decide +kernel
theorem dX7_count_118 : decode cX7_count 118 = .ok (.invokevirtual 233, 3) := by decide +kernel
theorem dX7_count_121 : decode cX7_count 121 = .ok (.ireturn, 1) := by decide +kernel
theorem dX7_count_122 : decode cX7_count 122 = .ok (.aload_n 0, 1) := by decide +kernel
theorem dX7_count_123 : decode cX7_count 123 = .ok (.getfield 114, 3) := by decide +kernel
theorem dX7_count_126 : decode cX7_count 126 = .ok (.ireturn, 1) := by decide +kernel
theorem dX7_count_127 : decode cX7_count 127 = .ok (.aload_n 0, 1) := by decide +kernel
theorem dX7_count_128 : decode cX7_count 128 = .ok (.getfield 196, 3) := by decide +kernel
theorem dX7_count_131 : decode cX7_count 131 = .ok (.ireturn, 1) := by decide +kernel
theorem dX7_count_132 : decode cX7_count 132 = .ok (.bipush (-2), 2) := by decide +kernel
theorem dX7_count_134 : decode cX7_count 134 = .ok (.ireturn, 1) := by decide +kernel
end
section
theorem z_cV0 {cx cx2 : z_MC} {r : Option Value} {M M1 M2 : z_Mem} {pc idx b ci N : Nat} {ls : List (Option Value)} {st : List Value} {C : String} {T : u_T} {fks : List Nat} {v : Value} (hC : z_Ct cx2 [.ref b] M (some v) M1) (hg : z_CV cx.2.1 cx.2.2.2.2.2 idx cx2 C 0) (hs : z_shp[b]? = some (.inr (.inl (ci, fks)))) (hc : vwCl[ci]? = some (C, T, N)) (hcat : decide ((st.map fun v => v.category).sum ≤ 8) = true) (d : decode cx.1 pc = .ok (.invokevirtual idx, 3)) (kk : z_Sm cx r M2 (pc + 3) ls (v :: st) M1) : z_Sm cx r M2 pc ls (.ref b :: st) M := z_callV (As := []) hC hg hs hc rfl rfl (of_decide_eq_true hcat) d kk
theorem z_cV0v {cx cx2 : z_MC} {r : Option Value} {M M1 M2 : z_Mem} {pc idx b ci N : Nat} {ls : List (Option Value)} {st : List Value} {C : String} {T : u_T} {fks : List Nat} (hC : z_Ct cx2 [.ref b] M none M1) (hg : z_CV cx.2.1 cx.2.2.2.2.2 idx cx2 C 0) (hs : z_shp[b]? = some (.inr (.inl (ci, fks)))) (hc : vwCl[ci]? = some (C, T, N)) (hcat : decide ((st.map fun v => v.category).sum ≤ 8) = true) (d : decode cx.1 pc = .ok (.invokevirtual idx, 3)) (kk : z_Sm cx r M2 (pc + 3) ls st M1) : z_Sm cx r M2 pc ls (.ref b :: st) M := z_callV (As := []) hC hg hs hc rfl rfl (of_decide_eq_true hcat) d kk
theorem z_cV1 {cx cx2 : z_MC} {r : Option Value} {M M1 M2 : z_Mem} {pc idx b ci N : Nat} {ls : List (Option Value)} {st : List Value} {a1 : Value} {C : String} {T : u_T} {fks : List Nat} {v : Value} (hC : z_Ct cx2 [.ref b, a1] M (some v) M1) (hg : z_CV cx.2.1 cx.2.2.2.2.2 idx cx2 C 1) (hs : z_shp[b]? = some (.inr (.inl (ci, fks)))) (hc : vwCl[ci]? = some (C, T, N)) (hcat : decide ((st.map fun v => v.category).sum ≤ 8) = true) (d : decode cx.1 pc = .ok (.invokevirtual idx, 3)) (kk : z_Sm cx r M2 (pc + 3) ls (v :: st) M1) : z_Sm cx r M2 pc ls (a1 :: .ref b :: st) M := z_callV (As := [a1]) hC hg hs hc rfl rfl (of_decide_eq_true hcat) d kk
theorem z_cV1v {cx cx2 : z_MC} {r : Option Value} {M M1 M2 : z_Mem} {pc idx b ci N : Nat} {ls : List (Option Value)} {st : List Value} {a1 : Value} {C : String} {T : u_T} {fks : List Nat} (hC : z_Ct cx2 [.ref b, a1] M none M1) (hg : z_CV cx.2.1 cx.2.2.2.2.2 idx cx2 C 1) (hs : z_shp[b]? = some (.inr (.inl (ci, fks)))) (hc : vwCl[ci]? = some (C, T, N)) (hcat : decide ((st.map fun v => v.category).sum ≤ 8) = true) (d : decode cx.1 pc = .ok (.invokevirtual idx, 3)) (kk : z_Sm cx r M2 (pc + 3) ls st M1) : z_Sm cx r M2 pc ls (a1 :: .ref b :: st) M := z_callV (As := [a1]) hC hg hs hc rfl rfl (of_decide_eq_true hcat) d kk
theorem z_cS1 {cx cx2 : z_MC} {r : Option Value} {M M1 M2 : z_Mem} {pc idx : Nat} {ls : List (Option Value)} {st : List Value} {a1 : Value} {v : Value} (hC : z_Ct cx2 [a1] M (some v) M1) (hg : z_CS cx.2.1 cx.2.2.2.2.2 idx cx2 1) (hcat : decide ((st.map fun v => v.category).sum ≤ 8) = true) (d : decode cx.1 pc = .ok (.invokestatic idx, 3)) (kk : z_Sm cx r M2 (pc + 3) ls (v :: st) M1) : z_Sm cx r M2 pc ls (a1 :: st) M := z_callS (As := [a1]) hC hg rfl rfl (of_decide_eq_true hcat) d kk
theorem z_cV2 {cx cx2 : z_MC} {r : Option Value} {M M1 M2 : z_Mem} {pc idx b ci N : Nat} {ls : List (Option Value)} {st : List Value} {a1 a2 : Value} {C : String} {T : u_T} {fks : List Nat} {v : Value} (hC : z_Ct cx2 [.ref b, a1, a2] M (some v) M1) (hg : z_CV cx.2.1 cx.2.2.2.2.2 idx cx2 C 2) (hs : z_shp[b]? = some (.inr (.inl (ci, fks)))) (hc : vwCl[ci]? = some (C, T, N)) (hcat : decide ((st.map fun v => v.category).sum ≤ 8) = true) (d : decode cx.1 pc = .ok (.invokevirtual idx, 3)) (kk : z_Sm cx r M2 (pc + 3) ls (v :: st) M1) : z_Sm cx r M2 pc ls (a2 :: a1 :: .ref b :: st) M := z_callV (As := [a1, a2]) hC hg hs hc rfl rfl (of_decide_eq_true hcat) d kk
theorem z_cV2v {cx cx2 : z_MC} {r : Option Value} {M M1 M2 : z_Mem} {pc idx b ci N : Nat} {ls : List (Option Value)} {st : List Value} {a1 a2 : Value} {C : String} {T : u_T} {fks : List Nat} (hC : z_Ct cx2 [.ref b, a1, a2] M none M1) (hg : z_CV cx.2.1 cx.2.2.2.2.2 idx cx2 C 2) (hs : z_shp[b]? = some (.inr (.inl (ci, fks)))) (hc : vwCl[ci]? = some (C, T, N)) (hcat : decide ((st.map fun v => v.category).sum ≤ 8) = true) (d : decode cx.1 pc = .ok (.invokevirtual idx, 3)) (kk : z_Sm cx r M2 (pc + 3) ls st M1) : z_Sm cx r M2 pc ls (a2 :: a1 :: .ref b :: st) M := z_callV (As := [a1, a2]) hC hg hs hc rfl rfl (of_decide_eq_true hcat) d kk
theorem z_cS2 {cx cx2 : z_MC} {r : Option Value} {M M1 M2 : z_Mem} {pc idx : Nat} {ls : List (Option Value)} {st : List Value} {a1 a2 : Value} {v : Value} (hC : z_Ct cx2 [a1, a2] M (some v) M1) (hg : z_CS cx.2.1 cx.2.2.2.2.2 idx cx2 2) (hcat : decide ((st.map fun v => v.category).sum ≤ 8) = true) (d : decode cx.1 pc = .ok (.invokestatic idx, 3)) (kk : z_Sm cx r M2 (pc + 3) ls (v :: st) M1) : z_Sm cx r M2 pc ls (a2 :: a1 :: st) M := z_callS (As := [a1, a2]) hC hg rfl rfl (of_decide_eq_true hcat) d kk
theorem z_cV3 {cx cx2 : z_MC} {r : Option Value} {M M1 M2 : z_Mem} {pc idx b ci N : Nat} {ls : List (Option Value)} {st : List Value} {a1 a2 a3 : Value} {C : String} {T : u_T} {fks : List Nat} {v : Value} (hC : z_Ct cx2 [.ref b, a1, a2, a3] M (some v) M1) (hg : z_CV cx.2.1 cx.2.2.2.2.2 idx cx2 C 3) (hs : z_shp[b]? = some (.inr (.inl (ci, fks)))) (hc : vwCl[ci]? = some (C, T, N)) (hcat : decide ((st.map fun v => v.category).sum ≤ 8) = true) (d : decode cx.1 pc = .ok (.invokevirtual idx, 3)) (kk : z_Sm cx r M2 (pc + 3) ls (v :: st) M1) : z_Sm cx r M2 pc ls (a3 :: a2 :: a1 :: .ref b :: st) M := z_callV (As := [a1, a2, a3]) hC hg hs hc rfl rfl (of_decide_eq_true hcat) d kk
theorem z_cV3v {cx cx2 : z_MC} {r : Option Value} {M M1 M2 : z_Mem} {pc idx b ci N : Nat} {ls : List (Option Value)} {st : List Value} {a1 a2 a3 : Value} {C : String} {T : u_T} {fks : List Nat} (hC : z_Ct cx2 [.ref b, a1, a2, a3] M none M1) (hg : z_CV cx.2.1 cx.2.2.2.2.2 idx cx2 C 3) (hs : z_shp[b]? = some (.inr (.inl (ci, fks)))) (hc : vwCl[ci]? = some (C, T, N)) (hcat : decide ((st.map fun v => v.category).sum ≤ 8) = true) (d : decode cx.1 pc = .ok (.invokevirtual idx, 3)) (kk : z_Sm cx r M2 (pc + 3) ls st M1) : z_Sm cx r M2 pc ls (a3 :: a2 :: a1 :: .ref b :: st) M := z_callV (As := [a1, a2, a3]) hC hg hs hc rfl rfl (of_decide_eq_true hcat) d kk
theorem z_cS3 {cx cx2 : z_MC} {r : Option Value} {M M1 M2 : z_Mem} {pc idx : Nat} {ls : List (Option Value)} {st : List Value} {a1 a2 a3 : Value} {v : Value} (hC : z_Ct cx2 [a1, a2, a3] M (some v) M1) (hg : z_CS cx.2.1 cx.2.2.2.2.2 idx cx2 3) (hcat : decide ((st.map fun v => v.category).sum ≤ 8) = true) (d : decode cx.1 pc = .ok (.invokestatic idx, 3)) (kk : z_Sm cx r M2 (pc + 3) ls (v :: st) M1) : z_Sm cx r M2 pc ls (a3 :: a2 :: a1 :: st) M := z_callS (As := [a1, a2, a3]) hC hg rfl rfl (of_decide_eq_true hcat) d kk
theorem z_cV4 {cx cx2 : z_MC} {r : Option Value} {M M1 M2 : z_Mem} {pc idx b ci N : Nat} {ls : List (Option Value)} {st : List Value} {a1 a2 a3 a4 : Value} {C : String} {T : u_T} {fks : List Nat} {v : Value} (hC : z_Ct cx2 [.ref b, a1, a2, a3, a4] M (some v) M1) (hg : z_CV cx.2.1 cx.2.2.2.2.2 idx cx2 C 4) (hs : z_shp[b]? = some (.inr (.inl (ci, fks)))) (hc : vwCl[ci]? = some (C, T, N)) (hcat : decide ((st.map fun v => v.category).sum ≤ 8) = true) (d : decode cx.1 pc = .ok (.invokevirtual idx, 3)) (kk : z_Sm cx r M2 (pc + 3) ls (v :: st) M1) : z_Sm cx r M2 pc ls (a4 :: a3 :: a2 :: a1 :: .ref b :: st) M := z_callV (As := [a1, a2, a3, a4]) hC hg hs hc rfl rfl (of_decide_eq_true hcat) d kk
theorem z_cV4v {cx cx2 : z_MC} {r : Option Value} {M M1 M2 : z_Mem} {pc idx b ci N : Nat} {ls : List (Option Value)} {st : List Value} {a1 a2 a3 a4 : Value} {C : String} {T : u_T} {fks : List Nat} (hC : z_Ct cx2 [.ref b, a1, a2, a3, a4] M none M1) (hg : z_CV cx.2.1 cx.2.2.2.2.2 idx cx2 C 4) (hs : z_shp[b]? = some (.inr (.inl (ci, fks)))) (hc : vwCl[ci]? = some (C, T, N)) (hcat : decide ((st.map fun v => v.category).sum ≤ 8) = true) (d : decode cx.1 pc = .ok (.invokevirtual idx, 3)) (kk : z_Sm cx r M2 (pc + 3) ls st M1) : z_Sm cx r M2 pc ls (a4 :: a3 :: a2 :: a1 :: .ref b :: st) M := z_callV (As := [a1, a2, a3, a4]) hC hg hs hc rfl rfl (of_decide_eq_true hcat) d kk
theorem z_cS4 {cx cx2 : z_MC} {r : Option Value} {M M1 M2 : z_Mem} {pc idx : Nat} {ls : List (Option Value)} {st : List Value} {a1 a2 a3 a4 : Value} {v : Value} (hC : z_Ct cx2 [a1, a2, a3, a4] M (some v) M1) (hg : z_CS cx.2.1 cx.2.2.2.2.2 idx cx2 4) (hcat : decide ((st.map fun v => v.category).sum ≤ 8) = true) (d : decode cx.1 pc = .ok (.invokestatic idx, 3)) (kk : z_Sm cx r M2 (pc + 3) ls (v :: st) M1) : z_Sm cx r M2 pc ls (a4 :: a3 :: a2 :: a1 :: st) M := z_callS (As := [a1, a2, a3, a4]) hC hg rfl rfl (of_decide_eq_true hcat) d kk
theorem z_swo {x : Int32} {lo hi : Nat} (hh : hi < 2 ^ 31) (h : ∀ k, lo ≤ k → k ≤ hi → ¬ x = nI k) : x.toInt < (lo : Int) ∨ (hi : Int) < x.toInt := by
  by_cases q : x.toInt < (lo : Int)
  · exact Or.inl q
  by_cases q2 : (hi : Int) < x.toInt
  · exact Or.inr q2
  exfalso
  obtain ⟨k, hk⟩ := Int.eq_ofNat_of_zero_le (show 0 ≤ x.toInt by omega)
  refine h k (by omega) (by omega) (Int32.toInt_inj.mp ?_)
  rw [hk, nI_toInt (by omega)]
theorem z_sw0_6 {x : Int32} (h0 : ¬ x = 0) (h1 : ¬ x = 1) (h2 : ¬ x = 2) (h3 : ¬ x = 3) (h4 : ¬ x = 4) (h5 : ¬ x = 5) (h6 : ¬ x = 6) : x.toInt < 0 ∨ 6 < x.toInt := z_swo (lo := 0) (hi := 6) (by decide) (fun k p1 p2 => by
  rcases (show k = 0 ∨ k = 1 ∨ k = 2 ∨ k = 3 ∨ k = 4 ∨ k = 5 ∨ k = 6 by omega) with rfl | rfl | rfl | rfl | rfl | rfl | rfl
  · exact h0
  · exact h1
  · exact h2
  · exact h3
  · exact h4
  · exact h5
  · exact h6)
theorem z_sw0_10 {x : Int32} (h0 : ¬ x = 0) (h1 : ¬ x = 1) (h2 : ¬ x = 2) (h3 : ¬ x = 3) (h4 : ¬ x = 4) (h5 : ¬ x = 5) (h6 : ¬ x = 6) (h7 : ¬ x = 7) (h8 : ¬ x = 8) (h9 : ¬ x = 9) (h10 : ¬ x = 10) : x.toInt < 0 ∨ 10 < x.toInt := z_swo (lo := 0) (hi := 10) (by decide) (fun k p1 p2 => by
  rcases (show k = 0 ∨ k = 1 ∨ k = 2 ∨ k = 3 ∨ k = 4 ∨ k = 5 ∨ k = 6 ∨ k = 7 ∨ k = 8 ∨ k = 9 ∨ k = 10 by omega) with rfl | rfl | rfl | rfl | rfl | rfl | rfl | rfl | rfl | rfl | rfl
  · exact h0
  · exact h1
  · exact h2
  · exact h3
  · exact h4
  · exact h5
  · exact h6
  · exact h7
  · exact h8
  · exact h9
  · exact h10)
theorem z_sw0_5 {x : Int32} (h0 : ¬ x = 0) (h1 : ¬ x = 1) (h2 : ¬ x = 2) (h3 : ¬ x = 3) (h4 : ¬ x = 4) (h5 : ¬ x = 5) : x.toInt < 0 ∨ 5 < x.toInt := z_swo (lo := 0) (hi := 5) (by decide) (fun k p1 p2 => by
  rcases (show k = 0 ∨ k = 1 ∨ k = 2 ∨ k = 3 ∨ k = 4 ∨ k = 5 by omega) with rfl | rfl | rfl | rfl | rfl | rfl
  · exact h0
  · exact h1
  · exact h2
  · exact h3
  · exact h4
  · exact h5)
theorem z_sw1_3 {x : Int32} (h1 : ¬ x = 1) (h2 : ¬ x = 2) (h3 : ¬ x = 3) : x.toInt < 1 ∨ 3 < x.toInt := z_swo (lo := 1) (hi := 3) (by decide) (fun k p1 p2 => by
  rcases (show k = 1 ∨ k = 2 ∨ k = 3 by omega) with rfl | rfl | rfl
  · exact h1
  · exact h2
  · exact h3)
theorem z_n1 {x : Int32} {j : Nat} (h : x = nI j) : x + Int32.ofInt 1 = nI (j + 1) := by rw [h]; exact (nI_succ j).symm
theorem z_nlt {a b : Nat} (ha : a < 2 ^ 31) (hb : b < 2 ^ 31) : nI a < nI b ↔ a < b := nI_ltI ha hb
theorem z_nge {a b : Nat} (ha : a < 2 ^ 31) (hb : b < 2 ^ 31) : nI b ≤ nI a ↔ b ≤ a := nI_leI hb ha
theorem z_lit (n : Nat) : (OfNat.ofNat n : Int32) = nI n := rfl
/-- comparing numbers that are Nats: at a loop's head -/
theorem z_ge {x y : Int32} {a b : Nat} (h : y ≤ x) (hx : x = nI a) (hy : y = nI b) (ha : a < 2 ^ 31) (hb : b < 2 ^ 31) : b ≤ a := by subst hx; subst hy; exact (nI_leI hb ha).mp h
theorem z_lt {x y : Int32} {a b : Nat} (h : ¬ y ≤ x) (hx : x = nI a) (hy : y = nI b) (ha : a < 2 ^ 31) (hb : b < 2 ^ 31) : a < b := by subst hx; subst hy; exact Nat.lt_of_not_le (fun q => h ((nI_leI hb ha).mpr q))
theorem z_gt {x y : Int32} {a b : Nat} (h : y < x) (hx : x = nI a) (hy : y = nI b) (ha : a < 2 ^ 31) (hb : b < 2 ^ 31) : b < a := by subst hx; subst hy; exact (nI_ltI hb ha).mp h
theorem z_ngt {x y : Int32} {a b : Nat} (h : ¬ y < x) (hx : x = nI a) (hy : y = nI b) (ha : a < 2 ^ 31) (hb : b < 2 ^ 31) : a ≤ b := by subst hx; subst hy; exact Nat.le_of_not_lt (fun q => h ((nI_ltI hb ha).mpr q))
end
section
/-! ===== Int32 by its bits: bt x i ===== -/
def bt (x : Int32) (i : Nat) : Bool := x.toBitVec.getLsbD i
theorem b_ext {x y : Int32} (h : ∀ i, i < 32 → bt x i = bt y i) : x = y := Int32.toBitVec_inj.mp (BitVec.eq_of_getLsbD_eq (fun i hi => h i hi))
theorem b_or (x y : Int32) (i : Nat) : bt (x ||| y) i = (bt x i || bt y i) := by unfold bt; rw [Int32.toBitVec_or, BitVec.getLsbD_or]
theorem b_and (x y : Int32) (i : Nat) : bt (x &&& y) i = (bt x i && bt y i) := by unfold bt; rw [Int32.toBitVec_and, BitVec.getLsbD_and]
theorem b_xor (x y : Int32) (i : Nat) : bt (x ^^^ y) i = (bt x i ^^ bt y i) := by unfold bt; rw [Int32.toBitVec_xor, BitVec.getLsbD_xor]
theorem b_big {x : Int32} {i : Nat} (h : 32 ≤ i) : bt x i = false := BitVec.getLsbD_of_ge _ _ h
theorem b_255 (i : Nat) : bt 255 i = decide (i < 8) := by
  rcases Nat.lt_or_ge i 32 with h | h
  · exact (by decide +kernel : ∀ i, i < 32 → bt 255 i = decide (i < 8)) i h
  · rw [b_big h, decide_eq_false (by omega)]
theorem b_65535 (i : Nat) : bt 65535 i = decide (i < 16) := by
  rcases Nat.lt_or_ge i 32 with h | h
  · exact (by decide +kernel : ∀ i, i < 32 → bt 65535 i = decide (i < 16)) i h
  · rw [b_big h, decide_eq_false (by omega)]
theorem b_m1 : ∀ i, i < 32 → bt (-1) i = true := by decide +kernel
theorem b_0 (i : Nat) : bt 0 i = false := BitVec.getLsbD_zero
theorem s_l : ∀ n, n < 32 → ((nI n &&& 31).toBitVec.smod 32).toNat = n := by decide +kernel
theorem s_u : ∀ n, n < 32 → (((nI n).toUInt32 &&& Int32.toUInt32 31).toBitVec % 32).toNat = n := by decide +kernel
theorem b_shl (n : Nat) (hn : n < 32) (x : Int32) {i : Nat} (hi : i < 32) : bt (x <<< (nI n &&& 31)) i = (decide (n ≤ i) && bt x (i - n)) := by
  unfold bt
  rw [Int32.toBitVec_shiftLeft]
  show (x.toBitVec <<< ((nI n &&& 31).toBitVec.smod 32).toNat).getLsbD i = _
  rw [s_l n hn, BitVec.getLsbD_shiftLeft]
  rcases Nat.lt_or_ge i n with h | h
  · simp [h, Nat.not_le.mpr h]
  · simp [hi, h, Nat.not_lt.mpr h]
theorem b_ushr (n : Nat) (hn : n < 32) (x : Int32) (i : Nat) : bt ((x.toUInt32 >>> ((nI n).toUInt32 &&& Int32.toUInt32 31)).toInt32) i = bt x (n + i) := by
  show (x.toUInt32 >>> ((nI n).toUInt32 &&& Int32.toUInt32 31)).toBitVec.getLsbD i = x.toUInt32.toBitVec.getLsbD (n + i)
  rw [UInt32.toBitVec_shiftRight]
  show (x.toUInt32.toBitVec >>> (((nI n).toUInt32 &&& Int32.toUInt32 31).toBitVec % 32).toNat).getLsbD i = _
  rw [s_u n hn, BitVec.getLsbD_ushiftRight]
theorem b_sshr (n : Nat) (hn : n < 32) (x : Int32) {i : Nat} (hi : i < 32) : bt (x >>> (nI n &&& 31)) i = if n + i < 32 then bt x (n + i) else bt x 31 := by
  unfold bt
  rw [Int32.toBitVec_shiftRight]
  show (x.toBitVec.sshiftRight ((nI n &&& 31).toBitVec.smod 32).toNat).getLsbD i = _
  rw [s_l n hn, BitVec.getLsbD_sshiftRight, BitVec.msb_eq_getLsbD_last]
  simp [hi]
theorem b_shl8 (x : Int32) {i : Nat} (hi : i < 32) : bt (x <<< ((8 : Int32) &&& 31)) i = (decide (8 ≤ i) && bt x (i - 8)) := b_shl 8 (by omega) x hi
theorem b_shl16 (x : Int32) {i : Nat} (hi : i < 32) : bt (x <<< ((16 : Int32) &&& 31)) i = (decide (16 ≤ i) && bt x (i - 16)) := b_shl 16 (by omega) x hi
theorem b_shl24 (x : Int32) {i : Nat} (hi : i < 32) : bt (x <<< ((24 : Int32) &&& 31)) i = (decide (24 ≤ i) && bt x (i - 24)) := b_shl 24 (by omega) x hi
theorem b_sshr8 (x : Int32) {i : Nat} (hi : i < 32) : bt (x >>> ((8 : Int32) &&& 31)) i = if 8 + i < 32 then bt x (8 + i) else bt x 31 := b_sshr 8 (by omega) x hi
/-! ===== sets of bits in an int ===== -/
def em (t : Nat) : Int32 := (1 : Int32) <<< (nI t &&& 31)
theorem em_bt {t : Nat} (ht : t < 32) {j : Nat} (hj : j < 32) : bt (em t) j = decide (j = t) := by
  have h1 : ∀ i, i < 32 → bt 1 i = decide (i = 0) := by decide +kernel
  rw [em, b_shl t ht 1 hj]
  by_cases h : t ≤ j
  · rw [h1 (j - t) (by omega)]
    by_cases e : j = t
    · subst e; simp
    · simp [h, e, show ¬ j - t = 0 by omega]
  · simp [h, show ¬ j = t by omega]
theorem z_b0 (o : Int32) {k : Nat} (hk : k < 32) : (o &&& em k) = 0 ↔ bt o k = false := by
  constructor
  · intro h
    have := congrArg (fun x => bt x k) h
    simp only [b_and, em_bt hk hk, b_0] at this
    simpa using this
  · intro h
    refine b_ext (fun i hi => ?_)
    rw [b_and, em_bt hk hi, b_0]
    by_cases e : i = k
    · subst e; rw [h]; rfl
    · simp [e]
theorem z_b01 (o : Int32) {k : Nat} (hk : k < 32) : (o &&& em k) = if bt o k then em k else 0 := by
  refine b_ext (fun i hi => ?_)
  rw [b_and, em_bt hk hi]
  by_cases e : i = k
  · subst e
    cases h : bt o i <;> simp [b_0, em_bt hk hi]
  · cases h : bt o k <;> simp [b_0, em_bt hk hi, e]
theorem z_has (o : Int32) {k : Nat} (hk : k < 32) : ((o >>> (nI k &&& 31)) &&& 1) = if bt o k then 1 else 0 := by
  have h1 : ∀ i, i < 32 → bt 1 i = decide (i = 0) := by decide +kernel
  refine b_ext (fun i hi => ?_)
  rw [b_and, b_sshr k hk o hi, h1 i hi]
  by_cases e : i = 0
  · subst e
    rw [if_pos (by omega), Nat.add_zero]
    cases h : bt o k <;> simp [b_0, h1 0 (by omega)]
  · cases h : bt o k <;> simp [b_0, h1 i hi, e]
theorem z_not (x : Int32) {k : Nat} (hk : k < 32) : bt (x ^^^ (-1)) k = !bt x k := by rw [b_xor, b_m1 k hk]; cases bt x k <;> rfl
theorem z_orN (a b : Nat) : nI a ||| nI b = nI (a ||| b) := by
  apply Int32.toBitVec_inj.1
  show BitVec.ofNat 32 a ||| BitVec.ofNat 32 b = BitVec.ofNat 32 (a ||| b)
  apply BitVec.eq_of_getLsbD_eq
  intro i hi
  simp [hi]
theorem z_andN (a b : Nat) : nI a &&& nI b = nI (a &&& b) := by
  apply Int32.toBitVec_inj.1
  show BitVec.ofNat 32 a &&& BitVec.ofNat 32 b = BitVec.ofNat 32 (a &&& b)
  apply BitVec.eq_of_getLsbD_eq
  intro i hi
  simp [hi]
theorem nx_xorN (a b : Nat) : nI a ^^^ nI b = nI (a ^^^ b) := by
  apply Int32.toBitVec_inj.1
  show BitVec.ofNat 32 a ^^^ BitVec.ofNat 32 b = BitVec.ofNat 32 (a ^^^ b)
  apply BitVec.eq_of_getLsbD_eq
  intro i hi
  simp [hi]
theorem bt_nI (n : Nat) {k : Nat} (hk : k < 32) : bt (nI n) k = n.testBit k := by
  show (BitVec.ofNat 32 n).getLsbD k = _
  rw [BitVec.getLsbD_ofNat]
  simp [hk]
/-- nothing from bit 7 on -/
def sm7 (x : Int32) : Prop := ∀ k, 7 ≤ k → k < 32 → bt x k = false
theorem sm7_nat {x : Int32} (h : sm7 x) : ∃ n, n < 128 ∧ x = nI n := by
  refine ⟨x.toBitVec.toNat % 128, Nat.mod_lt _ (by decide), b_ext (fun i hi => ?_)⟩
  rw [bt_nI _ hi]
  show x.toBitVec.getLsbD i = (x.toBitVec.toNat % 2 ^ 7).testBit i
  rw [Nat.testBit_mod_two_pow]
  by_cases h7 : i < 7
  · simp [h7, BitVec.getLsbD]
  · rw [show x.toBitVec.getLsbD i = bt x i from rfl, h i (by omega) hi]
    simp [h7]
theorem sm7_of {n : Nat} (h : n < 128) : sm7 (nI n) := by
  intro k h7 hk
  rw [bt_nI _ hk]
  exact Nat.testBit_lt_two_pow (Nat.lt_of_lt_of_le h (by have := Nat.pow_le_pow_right (n := 2) (by decide) h7; omega))
theorem sm7_0 : sm7 0 := fun k _ _ => b_0 k
theorem sm7_or {x y : Int32} (hx : sm7 x) (hy : sm7 y) : sm7 (x ||| y) := fun k h1 h2 => by rw [b_or, hx k h1 h2, hy k h1 h2]; rfl
theorem sm7_and {x y : Int32} (hx : sm7 x) : sm7 (x &&& y) := fun k h1 h2 => by rw [b_and, hx k h1 h2]; rfl
theorem sm7_em {k : Nat} (h : k < 7) : sm7 (em k) := fun j h1 h2 => by rw [em_bt (by omega) h2]; simp; omega
/-- how many of the first n bits are there -/
def pc : Nat → Int32 → Nat
  | 0, _ => 0
  | n + 1, x => pc n x + (bt x n).toNat
theorem pc_le (x : Int32) : ∀ n, pc n x ≤ n
  | 0 => Nat.le_refl 0
  | n + 1 => by
    have := pc_le x n
    show pc n x + (bt x n).toNat ≤ n + 1
    cases bt x n <;> simp <;> omega
end
section
/-! ===== the JDK's few: bitCount, max, min, floorMod ===== -/
def bcE (x : Int32) : Int32 :=
  let s := fun (v k : Int32) => (v.toUInt32 >>> (k.toUInt32 &&& Int32.toUInt32 31)).toInt32
  let a := x - (s x 1 &&& 1431655765)
  let b := (a &&& 858993459) + (s a 2 &&& 858993459)
  let c := (b + s b 4) &&& 252645135
  let d := c + s c 8
  let e := d + s d 16
  e &&& 63
theorem bcE_pc : ∀ n, n < 128 → bcE (nI n) = nI (pc 7 (nI n)) := by decide +kernel
set_option maxRecDepth 100000 in
set_option maxHeartbeats 4000000 in
theorem c_J6_bitCount_0f7a4 {M : z_Mem} {x : Int32} (hx : sm7 x) : z_Ct mJ6_bitCount_0f7a4 [.int x] M (some (.int (nI (pc 7 x)))) M := by
  obtain ⟨n, hn, hxn⟩ := sm7_nat hx
  refine z_entry (by decide +kernel) (Nat.le_of_ble_eq_true rfl) rfl ?_
  show z_Sm mJ6_bitCount_0f7a4 _ _ 0 [some (.int x)] [] M
  refine z_iload_n (pc := 0) dJ6_bitCount_0f7a4_0 rfl ?_
  refine z_iload_n (pc := 1) dJ6_bitCount_0f7a4_1 rfl ?_
  refine z_iconst (pc := 2) (v := 1) dJ6_bitCount_0f7a4_2 (by decide) ?_
  refine z_iushr (pc := 3) dJ6_bitCount_0f7a4_3 rfl ?_
  refine z_ldcw (pc := 4) q_kJ6_265 dJ6_bitCount_0f7a4_4 ?_
  refine z_iand (pc := 7) dJ6_bitCount_0f7a4_7 ?_
  refine z_isub (pc := 8) dJ6_bitCount_0f7a4_8 ?_
  refine z_istore_n (pc := 9) dJ6_bitCount_0f7a4_9 rfl (by decide) ?_
  refine z_iload_n (pc := 10) dJ6_bitCount_0f7a4_10 rfl ?_
  refine z_ldcw (pc := 11) q_kJ6_266 dJ6_bitCount_0f7a4_11 ?_
  refine z_iand (pc := 14) dJ6_bitCount_0f7a4_14 ?_
  refine z_iload_n (pc := 15) dJ6_bitCount_0f7a4_15 rfl ?_
  refine z_iconst (pc := 16) (v := 2) dJ6_bitCount_0f7a4_16 (by decide) ?_
  refine z_iushr (pc := 17) dJ6_bitCount_0f7a4_17 rfl ?_
  refine z_ldcw (pc := 18) q_kJ6_266 dJ6_bitCount_0f7a4_18 ?_
  refine z_iand (pc := 21) dJ6_bitCount_0f7a4_21 ?_
  refine z_iadd (pc := 22) dJ6_bitCount_0f7a4_22 ?_
  refine z_istore_n (pc := 23) dJ6_bitCount_0f7a4_23 rfl (by decide) ?_
  refine z_iload_n (pc := 24) dJ6_bitCount_0f7a4_24 rfl ?_
  refine z_iload_n (pc := 25) dJ6_bitCount_0f7a4_25 rfl ?_
  refine z_iconst (pc := 26) (v := 4) dJ6_bitCount_0f7a4_26 (by decide) ?_
  refine z_iushr (pc := 27) dJ6_bitCount_0f7a4_27 rfl ?_
  refine z_iadd (pc := 28) dJ6_bitCount_0f7a4_28 ?_
  refine z_ldcw (pc := 29) q_kJ6_267 dJ6_bitCount_0f7a4_29 ?_
  refine z_iand (pc := 32) dJ6_bitCount_0f7a4_32 ?_
  refine z_istore_n (pc := 33) dJ6_bitCount_0f7a4_33 rfl (by decide) ?_
  refine z_iload_n (pc := 34) dJ6_bitCount_0f7a4_34 rfl ?_
  refine z_iload_n (pc := 35) dJ6_bitCount_0f7a4_35 rfl ?_
  refine z_bipush (pc := 36) (v := 8) dJ6_bitCount_0f7a4_36 (by decide) ?_
  refine z_iushr (pc := 38) dJ6_bitCount_0f7a4_38 rfl ?_
  refine z_iadd (pc := 39) dJ6_bitCount_0f7a4_39 ?_
  refine z_istore_n (pc := 40) dJ6_bitCount_0f7a4_40 rfl (by decide) ?_
  refine z_iload_n (pc := 41) dJ6_bitCount_0f7a4_41 rfl ?_
  refine z_iload_n (pc := 42) dJ6_bitCount_0f7a4_42 rfl ?_
  refine z_bipush (pc := 43) (v := 16) dJ6_bitCount_0f7a4_43 (by decide) ?_
  refine z_iushr (pc := 45) dJ6_bitCount_0f7a4_45 rfl ?_
  refine z_iadd (pc := 46) dJ6_bitCount_0f7a4_46 ?_
  refine z_istore_n (pc := 47) dJ6_bitCount_0f7a4_47 rfl (by decide) ?_
  refine z_iload_n (pc := 48) dJ6_bitCount_0f7a4_48 rfl ?_
  refine z_bipush (pc := 49) (v := 63) dJ6_bitCount_0f7a4_49 (by decide) ?_
  refine z_iand (pc := 51) dJ6_bitCount_0f7a4_51 ?_
  refine z_iret (pc := 52) rfl dJ6_bitCount_0f7a4_52 ?_ ?_
  · rw [hxn]; exact bcE_pc n hn
  · rfl
set_option maxRecDepth 100000 in
set_option maxHeartbeats 4000000 in
theorem c_J9_max_7cf53 {M : z_Mem} {x y : Int32} : z_Ct mJ9_max_7cf53 [.int x, .int y] M (some (.int (if x < y then y else x))) M := by
  refine z_entry (by decide +kernel) (Nat.le_of_ble_eq_true rfl) rfl ?_
  show z_Sm mJ9_max_7cf53 _ _ 0 [some (.int x), some (.int y)] [] M
  refine z_iload_n (pc := 0) dJ9_max_7cf53_0 rfl ?_
  refine z_iload_n (pc := 1) dJ9_max_7cf53_1 rfl ?_
  refine z_icmp_lt (pc := 2) (tgt := 9) dJ9_max_7cf53_2 (by decide) (fun h2 => ?_) (fun h2 => ?_)
  · refine z_iload_n (pc := 9) dJ9_max_7cf53_9 rfl ?_
    refine z_iret (pc := 10) rfl dJ9_max_7cf53_10 ?_ ?_
    · rw [if_pos h2]
    · rfl
  · refine z_iload_n (pc := 5) dJ9_max_7cf53_5 rfl ?_
    refine z_goto (pc := 6) (tgt := 10) dJ9_max_7cf53_6 (by decide) ?_
    refine z_iret (pc := 10) rfl dJ9_max_7cf53_10 ?_ ?_
    · rw [if_neg h2]
    · rfl
set_option maxRecDepth 100000 in
set_option maxHeartbeats 4000000 in
theorem c_J9_min_7cf53 {M : z_Mem} {x y : Int32} : z_Ct mJ9_min_7cf53 [.int x, .int y] M (some (.int (if y < x then y else x))) M := by
  refine z_entry (by decide +kernel) (Nat.le_of_ble_eq_true rfl) rfl ?_
  show z_Sm mJ9_min_7cf53 _ _ 0 [some (.int x), some (.int y)] [] M
  refine z_iload_n (pc := 0) dJ9_min_7cf53_0 rfl ?_
  refine z_iload_n (pc := 1) dJ9_min_7cf53_1 rfl ?_
  refine z_icmp_gt (pc := 2) (tgt := 9) dJ9_min_7cf53_2 (by decide) (fun h2 => ?_) (fun h2 => ?_)
  · refine z_iload_n (pc := 9) dJ9_min_7cf53_9 rfl ?_
    refine z_iret (pc := 10) rfl dJ9_min_7cf53_10 ?_ ?_
    · rw [if_pos h2]
    · rfl
  · refine z_iload_n (pc := 5) dJ9_min_7cf53_5 rfl ?_
    refine z_goto (pc := 6) (tgt := 10) dJ9_min_7cf53_6 (by decide) ?_
    refine z_iret (pc := 10) rfl dJ9_min_7cf53_10 ?_ ?_
    · rw [if_neg h2]
    · rfl
set_option maxRecDepth 100000 in
set_option maxHeartbeats 4000000 in
theorem c_J9_floorMod_7cf53 {M : z_Mem} {x y : Int32} {i n : Nat} (hx : x = nI i) (hy : y = nI n) (hi : i < 2 ^ 30) (hn : 0 < n) (hn2 : n < 2 ^ 30) : z_Ct mJ9_floorMod_7cf53 [.int x, .int y] M (some (.int (nI (i % n)))) M := by
  have hm : nI i - nI i / nI n * nI n = nI (i % n) := pk_rem (by omega) hn (by omega)
  have hml : i % n < n := Nat.mod_lt _ hn
  refine z_entry (by decide +kernel) (Nat.le_of_ble_eq_true rfl) rfl ?_
  show z_Sm mJ9_floorMod_7cf53 _ _ 0 [some (.int x), some (.int y), none] [] M
  refine z_iload_n (pc := 0) dJ9_floorMod_7cf53_0 rfl ?_
  refine z_iload_n (pc := 1) dJ9_floorMod_7cf53_1 rfl ?_
  refine z_irem (pc := 2) dJ9_floorMod_7cf53_2 (by rw [hy]; exact nI_ne0 hn (by omega)) ?_
  refine z_istore_n (pc := 3) dJ9_floorMod_7cf53_3 rfl (by decide) ?_
  refine z_iload_n (pc := 4) dJ9_floorMod_7cf53_4 rfl ?_
  refine z_iload_n (pc := 5) dJ9_floorMod_7cf53_5 rfl ?_
  refine z_ixor (pc := 6) dJ9_floorMod_7cf53_6 ?_
  refine z_if_ge (pc := 7) (tgt := 18) dJ9_floorMod_7cf53_7 (by decide) (fun h7 => ?_) (fun h7 => ?_)
  · refine z_iload_n (pc := 18) dJ9_floorMod_7cf53_18 rfl ?_
    refine z_iret (pc := 19) rfl dJ9_floorMod_7cf53_19 ?_ ?_
    · rw [hx, hy]; exact hm
    · rfl
  · refine z_iload_n (pc := 10) dJ9_floorMod_7cf53_10 rfl ?_
    refine z_if_eq (pc := 11) (tgt := 18) dJ9_floorMod_7cf53_11 (by decide) (fun h11 => ?_) (fun h11 => ?_)
    · refine z_iload_n (pc := 18) dJ9_floorMod_7cf53_18 rfl ?_
      refine z_iret (pc := 19) rfl dJ9_floorMod_7cf53_19 ?_ ?_
      · rw [hx, hy]; exact hm
      · rfl
    · refine z_iload_n (pc := 14) dJ9_floorMod_7cf53_14 rfl ?_
      refine z_iload_n (pc := 15) dJ9_floorMod_7cf53_15 rfl ?_
      refine z_iadd (pc := 16) dJ9_floorMod_7cf53_16 ?_
      refine z_iret (pc := 17) rfl dJ9_floorMod_7cf53_17 ?_ ?_
      · exfalso
        refine h7 ?_
        rw [hx, hy]
        have e : nI i ^^^ nI n = nI (i ^^^ n) := nx_xorN i n
        rw [e]
        exact nI_pos' (Nat.lt_trans (Nat.xor_lt_two_pow (n := 30) (by omega) (by omega)) (by decide))
      · rfl
/-! ===== the town's reads ===== -/
/-- the town as it lies in the class's cells: pins, their ends -/
def TW (M : z_Mem) (P : Nat) (a b : Nat → Nat) : Prop := M.1 3 0 = nI P ∧ P ≤ 7 ∧ ∀ k, k < P → M.1 4 k = nI (a k) ∧ M.1 5 k = nI (b k) ∧ a k < 6 ∧ b k < 6
def hlF (s w kd : Int32) : Int32 := if kd = 1 then s + 3 else if kd = 2 then (if 0 < s - w then s - w else 0) else s
set_option maxRecDepth 100000 in
set_option maxHeartbeats 4000000 in
theorem c_X4_allPins {M : z_Mem} {P : Nat} (hP : M.1 3 0 = nI P) : z_Ct mX4_allPins [.ref 3] M (some (.int (em P - 1))) M := by
  refine z_entry (by decide +kernel) (Nat.le_of_ble_eq_true rfl) rfl ?_
  show z_Sm mX4_allPins _ _ 0 [some (.ref 3)] [] M
  refine z_iconst (pc := 0) (v := 1) dX4_allPins_0 (by decide) ?_
  refine z_aload_n (pc := 1) dX4_allPins_1 rfl ?_
  refine z_getI (pc := 2) q_fX4_9 z_s3 rfl dX4_allPins_2 ?_
  refine z_ishl (pc := 5) dX4_allPins_5 ?_
  refine z_iconst (pc := 6) (v := 1) dX4_allPins_6 (by decide) ?_
  refine z_isub (pc := 7) dX4_allPins_7 ?_
  refine z_iret (pc := 8) rfl dX4_allPins_8 ?_ ?_
  · rw [hP]; rfl
  · rfl
set_option maxRecDepth 100000 in
set_option maxHeartbeats 4000000 in
theorem c_X4_endsOf {M : z_Mem} {P : Nat} {a b : Nat → Nat} (hT : TW M P a b) {x : Int32} {j : Nat} (hx : x = nI j) (hj : j < P) : z_Ct mX4_endsOf [.ref 3, .int x] M (some (.int (em (a j) ||| em (b j)))) M := by
  obtain ⟨hP, hP7, hab⟩ := hT
  obtain ⟨ha, hb, -, -⟩ := hab j hj
  refine z_entry (by decide +kernel) (Nat.le_of_ble_eq_true rfl) rfl ?_
  show z_Sm mX4_endsOf _ _ 0 [some (.ref 3), some (.int x)] [] M
  refine z_iconst (pc := 0) (v := 1) dX4_endsOf_0 (by decide) ?_
  refine z_aload_n (pc := 1) dX4_endsOf_1 rfl ?_
  refine z_getR (pc := 2) 4 q_fX4_15 z_s3 rfl dX4_endsOf_2 ?_
  refine z_iload_n (pc := 5) dX4_endsOf_5 rfl ?_
  refine z_iald (pc := 6) (j) z_s4 ⟨hx, by omega, by decide⟩ dX4_endsOf_6 ?_
  refine z_ishl (pc := 7) dX4_endsOf_7 ?_
  refine z_iconst (pc := 8) (v := 1) dX4_endsOf_8 (by decide) ?_
  refine z_aload_n (pc := 9) dX4_endsOf_9 rfl ?_
  refine z_getR (pc := 10) 5 q_fX4_19 z_s3 rfl dX4_endsOf_10 ?_
  refine z_iload_n (pc := 13) dX4_endsOf_13 rfl ?_
  refine z_iald (pc := 14) (j) z_s5 ⟨hx, by omega, by decide⟩ dX4_endsOf_14 ?_
  refine z_ishl (pc := 15) dX4_endsOf_15 ?_
  refine z_ior (pc := 16) dX4_endsOf_16 ?_
  refine z_iret (pc := 17) rfl dX4_endsOf_17 ?_ ?_
  · rw [ha, hb]; rfl
  · rfl
set_option maxRecDepth 100000 in
set_option maxHeartbeats 4000000 in
theorem c_X4_holds {M : z_Mem} {x w : Int32} {j : Nat} (hx : x = nI j) (hj : j < 7) : z_Ct mX4_holds [.ref 3, .int x, .int w] M (some (.int (hlF (M.1 6 j) w (M.1 7 j)))) M := by
  refine z_entry (by decide +kernel) (Nat.le_of_ble_eq_true rfl) rfl ?_
  show z_Sm mX4_holds _ _ 0 [some (.ref 3), some (.int x), some (.int w)] [] M
  refine z_aload_n (pc := 0) dX4_holds_0 rfl ?_
  refine z_getR (pc := 1) 7 q_fX4_25 z_s3 rfl dX4_holds_1 ?_
  refine z_iload_n (pc := 4) dX4_holds_4 rfl ?_
  refine z_iald (pc := 5) (j) z_s7 ⟨hx, hj, by decide⟩ dX4_holds_5 ?_
  refine z_iconst (pc := 6) (v := 1) dX4_holds_6 (by decide) ?_
  refine z_icmp_ne (pc := 7) (tgt := 19) dX4_holds_7 (by decide) (fun h7 => ?_) (fun h7 => ?_)
  · refine z_aload_n (pc := 19) dX4_holds_19 rfl ?_
    refine z_getR (pc := 20) 7 q_fX4_25 z_s3 rfl dX4_holds_20 ?_
    refine z_iload_n (pc := 23) dX4_holds_23 rfl ?_
    refine z_iald (pc := 24) (j) z_s7 ⟨hx, hj, by decide⟩ dX4_holds_24 ?_
    refine z_iconst (pc := 25) (v := 2) dX4_holds_25 (by decide) ?_
    refine z_icmp_ne (pc := 26) (tgt := 44) dX4_holds_26 (by decide) (fun h26 => ?_) (fun h26 => ?_)
    · refine z_aload_n (pc := 44) dX4_holds_44 rfl ?_
      refine z_getR (pc := 45) 6 q_fX4_22 z_s3 rfl dX4_holds_45 ?_
      refine z_iload_n (pc := 48) dX4_holds_48 rfl ?_
      refine z_iald (pc := 49) (j) z_s6 ⟨hx, hj, by decide⟩ dX4_holds_49 ?_
      refine z_iret (pc := 50) rfl dX4_holds_50 ?_ ?_
      · unfold hlF; rw [if_neg h7, if_neg h26]
      · rfl
    · refine z_iconst (pc := 29) (v := 0) dX4_holds_29 (by decide) ?_
      refine z_aload_n (pc := 30) dX4_holds_30 rfl ?_
      refine z_getR (pc := 31) 6 q_fX4_22 z_s3 rfl dX4_holds_31 ?_
      refine z_iload_n (pc := 34) dX4_holds_34 rfl ?_
      refine z_iald (pc := 35) (j) z_s6 ⟨hx, hj, by decide⟩ dX4_holds_35 ?_
      refine z_iload_n (pc := 36) dX4_holds_36 rfl ?_
      refine z_isub (pc := 37) dX4_holds_37 ?_
      refine z_cS2 (pc := 38) c_J9_max_7cf53 (q_cX4_62 _ (by decide)) rfl dX4_holds_38 ?_
      refine z_goto (pc := 41) (tgt := 50) dX4_holds_41 (by decide) ?_
      refine z_iret (pc := 50) rfl dX4_holds_50 ?_ ?_
      · unfold hlF; rw [if_neg h7, if_pos h26]
      · rfl
  · refine z_aload_n (pc := 10) dX4_holds_10 rfl ?_
    refine z_getR (pc := 11) 6 q_fX4_22 z_s3 rfl dX4_holds_11 ?_
    refine z_iload_n (pc := 14) dX4_holds_14 rfl ?_
    refine z_iald (pc := 15) (j) z_s6 ⟨hx, hj, by decide⟩ dX4_holds_15 ?_
    refine z_iconst (pc := 16) (v := 3) dX4_holds_16 (by decide) ?_
    refine z_iadd (pc := 17) dX4_holds_17 ?_
    refine z_iret (pc := 18) rfl dX4_holds_18 ?_ ?_
    · unfold hlF; rw [if_pos h7]
    · rfl
/-! ===== what is together ===== -/
def rIn (o : Int32) (a b : Nat → Nat) : Nat → Int32 → Int32
  | 0, x => x
  | n + 1, x => if bt o n = false ∧ (bt (rIn o a b n x) (a n) = true ∨ bt (rIn o a b n x) (b n) = true) then rIn o a b n x ||| (em (a n) ||| em (b n)) else rIn o a b n x
def rOut (o : Int32) (a b : Nat → Nat) (P : Nat) : Nat → Int32 → Int32
  | 0, x => x
  | n + 1, x => rIn o a b P (rOut o a b P n x)
def tog (o : Int32) (a b : Nat → Nat) (P t u : Nat) : Bool := bt (rOut o a b P 5 (em t)) u
theorem rIn_no {o : Int32} {a b : Nat → Nat} {n : Nat} {x : Int32} (h : bt o n = true ∨ (bt (rIn o a b n x) (a n) = false ∧ bt (rIn o a b n x) (b n) = false)) : rIn o a b (n + 1) x = rIn o a b n x := by
  rw [rIn, if_neg]
  rintro ⟨h1, h2⟩
  rcases h with h | ⟨h3, h4⟩
  · rw [h] at h1; cases h1
  · rw [h3, h4] at h2
    rcases h2 with h2 | h2 <;> cases h2
theorem rIn_yes {o : Int32} {a b : Nat → Nat} {n : Nat} {x : Int32} (h : bt o n = false) (h2 : bt (rIn o a b n x) (a n) = true ∨ bt (rIn o a b n x) (b n) = true) : rIn o a b (n + 1) x = rIn o a b n x ||| (em (a n) ||| em (b n)) := by rw [rIn, if_pos ⟨h, h2⟩]
theorem z_b2 (y : Int32) {i j : Nat} (hi : i < 32) (hj : j < 32) : (y &&& (em i ||| em j)) = 0 ↔ bt y i = false ∧ bt y j = false := by
  constructor
  · intro h
    constructor
    · have := congrArg (fun x => bt x i) h
      simp only [b_and, b_or, em_bt hi hi, b_0] at this
      simpa using this
    · have := congrArg (fun x => bt x j) h
      simp only [b_and, b_or, em_bt hj hj, b_0] at this
      simpa using this
  · rintro ⟨h1, h2⟩
    refine b_ext (fun k hk => ?_)
    rw [b_and, b_or, em_bt hi hk, em_bt hj hk, b_0]
    by_cases e1 : k = i
    · subst e1; simp [h1]
    · by_cases e2 : k = j
      · subst e2; simp [h2]
      · simp [e1, e2]
theorem z_nb {b : Bool} (h : ¬ b = false) : b = true := by cases b <;> simp_all
set_option maxRecDepth 100000 in
set_option maxHeartbeats 4000000 in
theorem s_X4_reach_17 {M M2 : z_Mem} {r : Option Value} {P : Nat} {a b : Nat → Nat} (hT : TW M P a b) {x1 o x0 rd : Int32} (kk : z_Sm mX4_reach r M2 61 [some (.ref 3), some (.int x1), some (.int o), some (.int (rIn o a b P x0)), some (.int rd), none] [] M) (j : Nat) (hj : j ≤ P) (xj ij : Int32) (h1 : xj = rIn o a b j x0) (h2 : ij = nI j) : z_Sm mX4_reach r M2 17 [some (.ref 3), some (.int x1), some (.int o), some (.int xj), some (.int rd), some (.int ij)] [] M := by
  have hP := hT.1
  have hP7 := hT.2.1
  refine z_iload (pc := 17) dX4_reach_17 rfl ?_
  refine z_aload_n (pc := 19) dX4_reach_19 rfl ?_
  refine z_getI (pc := 20) q_fX4_9 z_s3 rfl dX4_reach_20 ?_
  refine z_icmp_ge (pc := 23) (tgt := 61) dX4_reach_23 (by decide) (fun h23 => ?_) (fun h23 => ?_)
  · have hPj : P ≤ j := z_ge h23 h2 hP (by omega) (by omega)
    have e : j = P := by omega
    subst e
    subst h1
    exact z_drop 5 kk
  · have hlt : j < P := z_lt h23 h2 hP (by omega) (by omega)
    obtain ⟨hA, hB, ha6, hb6⟩ := hT.2.2 j hlt
    refine z_iload_n (pc := 26) dX4_reach_26 rfl ?_
    refine z_iconst (pc := 27) (v := 1) dX4_reach_27 (by decide) ?_
    refine z_iload (pc := 28) dX4_reach_28 rfl ?_
    refine z_ishl (pc := 30) dX4_reach_30 ?_
    refine z_iand (pc := 31) dX4_reach_31 ?_
    refine z_if_ne (pc := 32) (tgt := 55) dX4_reach_32 (by decide) (fun h32 => ?_) (fun h32 => ?_)
    · refine z_iinc (pc := 55) dX4_reach_55 rfl rfl rfl (by decide) ?_
      refine z_goto (pc := 58) (tgt := 17) dX4_reach_58 (by decide) ?_
      rw [h2] at h32
      exact s_X4_reach_17 hT kk (j + 1) hlt _ _ (by rw [h1, rIn_no (Or.inl (z_nb (fun q => h32 ((z_b0 o (by omega)).mpr q))))]) (z_n1 h2)
    · refine z_iload_n (pc := 35) dX4_reach_35 rfl ?_
      refine z_aload_n (pc := 36) dX4_reach_36 rfl ?_
      refine z_iload (pc := 37) dX4_reach_37 rfl ?_
      refine z_cV1 (pc := 39) (c_X4_endsOf hT h2 hlt) (q_cX4_68 _ (by decide)) z_s3 rfl rfl dX4_reach_39 ?_
      refine z_iand (pc := 42) dX4_reach_42 ?_
      refine z_if_eq (pc := 43) (tgt := 55) dX4_reach_43 (by decide) (fun h43 => ?_) (fun h43 => ?_)
      · refine z_iinc (pc := 55) dX4_reach_55 rfl rfl rfl (by decide) ?_
        refine z_goto (pc := 58) (tgt := 17) dX4_reach_58 (by decide) ?_
        rw [h1] at h43
        exact s_X4_reach_17 hT kk (j + 1) hlt _ _ (by rw [h1, rIn_no (Or.inr ((z_b2 _ (by omega) (by omega)).mp h43))]) (z_n1 h2)
      · refine z_iload_n (pc := 46) dX4_reach_46 rfl ?_
        refine z_aload_n (pc := 47) dX4_reach_47 rfl ?_
        refine z_iload (pc := 48) dX4_reach_48 rfl ?_
        refine z_cV1 (pc := 50) (c_X4_endsOf hT h2 hlt) (q_cX4_68 _ (by decide)) z_s3 rfl rfl dX4_reach_50 ?_
        refine z_ior (pc := 53) dX4_reach_53 ?_
        refine z_istore_n (pc := 54) dX4_reach_54 rfl (by decide) ?_
        refine z_iinc (pc := 55) dX4_reach_55 rfl rfl rfl (by decide) ?_
        refine z_goto (pc := 58) (tgt := 17) dX4_reach_58 (by decide) ?_
        rw [h1] at h43
        rw [h2] at h32
        refine s_X4_reach_17 hT kk (j + 1) hlt _ _ ?_ (z_n1 h2)
        rw [h1, rIn_yes ((z_b0 o (by omega)).mp h32)]
        rw [z_b2 _ (by omega) (by omega)] at h43
        cases q1 : bt (rIn o a b j x0) (a j)
        · right
          cases q2 : bt (rIn o a b j x0) (b j)
          · exact absurd ⟨q1, q2⟩ h43
          · rfl
        · left; rfl
termination_by P - j
decreasing_by all_goals omega
set_option maxRecDepth 100000 in
set_option maxHeartbeats 4000000 in
theorem s_X4_reach_7 {M M2 : z_Mem} {r : Option Value} {P : Nat} {a b : Nat → Nat} (hT : TW M P a b) {x1 o x0 : Int32} (kk : z_Sm mX4_reach r M2 67 [some (.ref 3), some (.int x1), some (.int o), some (.int (rOut o a b P 5 x0)), none, none] [] M) (j : Nat) (hj : j ≤ 5) (xj ij : Int32) (h1 : xj = rOut o a b P j x0) (h2 : ij = nI (j + 1)) : z_Sm mX4_reach r M2 7 [some (.ref 3), some (.int x1), some (.int o), some (.int xj), some (.int ij), none] [] M := by
  refine z_iload (pc := 7) dX4_reach_7 rfl ?_
  refine z_bipush (pc := 9) (v := 6) dX4_reach_9 (by decide) ?_
  refine z_icmp_ge (pc := 11) (tgt := 67) dX4_reach_11 (by decide) (fun h11 => ?_) (fun h11 => ?_)
  · have hPj : 6 ≤ j + 1 := z_ge h11 h2 (show (6 : Int32) = nI 6 from rfl) (by omega) (by omega)
    have e : j = 5 := by omega
    subst e
    subst h1
    exact z_drop 4 kk
  · refine z_iconst (pc := 14) (v := 0) dX4_reach_14 (by decide) ?_
    refine z_istore (pc := 15) dX4_reach_15 rfl (by decide) ?_
    have hlt : j + 1 < 6 := z_lt h11 h2 (show (6 : Int32) = nI 6 from rfl) (by omega) (by omega)
    refine s_X4_reach_17 hT (x0 := xj) ?_ 0 (Nat.zero_le P) xj 0 rfl rfl
    refine z_iinc (pc := 61) dX4_reach_61 rfl rfl rfl (by decide) ?_
    refine z_goto (pc := 64) (tgt := 7) dX4_reach_64 (by decide) ?_
    exact s_X4_reach_7 hT kk (j + 1) (by omega) _ _ (by rw [h1, rOut]) (z_n1 h2)
termination_by 5 - j
decreasing_by all_goals omega
set_option maxRecDepth 100000 in
set_option maxHeartbeats 4000000 in
theorem c_X4_reach {M : z_Mem} {P : Nat} {a b : Nat → Nat} (hT : TW M P a b) {x o : Int32} {t : Nat} (hx : x = nI t) : z_Ct mX4_reach [.ref 3, .int x, .int o] M (some (.int (rOut o a b P 5 (em t)))) M := by
  refine z_entry (by decide +kernel) (Nat.le_of_ble_eq_true rfl) rfl ?_
  show z_Sm mX4_reach _ _ 0 [some (.ref 3), some (.int x), some (.int o), none, none, none] [] M
  refine z_iconst (pc := 0) (v := 1) dX4_reach_0 (by decide) ?_
  refine z_iload_n (pc := 1) dX4_reach_1 rfl ?_
  refine z_ishl (pc := 2) dX4_reach_2 ?_
  refine z_istore_n (pc := 3) dX4_reach_3 rfl (by decide) ?_
  refine z_iconst (pc := 4) (v := 1) dX4_reach_4 (by decide) ?_
  refine z_istore (pc := 5) dX4_reach_5 rfl (by decide) ?_
  refine s_X4_reach_7 hT ?_ 0 (by omega) _ _ rfl rfl
  refine z_iload_n (pc := 67) dX4_reach_67 rfl ?_
  refine z_iret (pc := 68) rfl dX4_reach_68 ?_ ?_
  · rw [hx]; rfl
  · rfl
set_option maxRecDepth 100000 in
set_option maxHeartbeats 4000000 in
theorem c_X4_areTogether {M : z_Mem} {P : Nat} {a b : Nat → Nat} (hT : TW M P a b) {x y o : Int32} {t u : Nat} (hx : x = nI t) (hy : y = nI u) (hu : u < 6) : z_Ct mX4_areTogether [.ref 3, .int x, .int y, .int o] M (some (.int (if tog o a b P t u then 1 else 0))) M := by
  refine z_entry (by decide +kernel) (Nat.le_of_ble_eq_true rfl) rfl ?_
  show z_Sm mX4_areTogether _ _ 0 [some (.ref 3), some (.int x), some (.int y), some (.int o)] [] M
  refine z_aload_n (pc := 0) dX4_areTogether_0 rfl ?_
  refine z_iload_n (pc := 1) dX4_areTogether_1 rfl ?_
  refine z_iload_n (pc := 2) dX4_areTogether_2 rfl ?_
  refine z_cV2 (pc := 3) (c_X4_reach hT hx) (q_cX4_71 _ (by decide)) z_s3 rfl rfl dX4_areTogether_3 ?_
  refine z_iconst (pc := 6) (v := 1) dX4_areTogether_6 (by decide) ?_
  refine z_iload_n (pc := 7) dX4_areTogether_7 rfl ?_
  refine z_ishl (pc := 8) dX4_areTogether_8 ?_
  refine z_iand (pc := 9) dX4_areTogether_9 ?_
  refine z_if_eq (pc := 10) (tgt := 17) dX4_areTogether_10 (by decide) (fun h10 => ?_) (fun h10 => ?_)
  · refine z_iconst (pc := 17) (v := 0) dX4_areTogether_17 (by decide) ?_
    refine z_zret (pc := 18) rfl dX4_areTogether_18 ?_ ?_ ?_
    · rfl
    · rw [hy] at h10
      have q := (z_b0 _ (by omega)).mp h10
      rw [tog, q]; rfl
    · rfl
  · refine z_iconst (pc := 13) (v := 1) dX4_areTogether_13 (by decide) ?_
    refine z_goto (pc := 14) (tgt := 18) dX4_areTogether_14 (by decide) ?_
    refine z_zret (pc := 18) rfl dX4_areTogether_18 ?_ ?_ ?_
    · rfl
    · rw [hy] at h10
      have q := z_nb (fun q => h10 ((z_b0 (rOut o a b P 5 (em t)) (k := u) (by omega)).mpr q))
      rw [tog, q]; rfl
    · rfl
end
section
/-! ===== a plight, loads, pings: the numbers ===== -/
def cpF (n : Nat) (f g : Nat → Int32) : Nat → Int32 := fun k => if k < n then f k else g k
theorem cpF_0 (f g : Nat → Int32) : cpF 0 f g = g := funext fun k => by simp [cpF]
theorem cpF_s (n : Nat) (f g : Nat → Int32) : upd (cpF n f g) n (f n) = cpF (n + 1) f g := by
  funext k
  unfold upd cpF
  by_cases h : k = n
  · subst h; simp
  · by_cases h2 : k < n
    · simp [h, h2, show k < n + 1 by omega]
    · simp [h, h2, show ¬ k < n + 1 by omega]
/-- a town: pins, their ends, strengths, kinds -/
abbrev TT : Type := Nat × (Nat → Nat) × (Nat → Nat) × (Nat → Int32) × (Nat → Int32)
def TK (M : z_Mem) (T : TT) : Prop := TW M T.1 T.2.1 T.2.2.1 ∧ ∀ k, k < T.1 → M.1 6 k = T.2.2.2.1 k ∧ M.1 7 k = T.2.2.2.2 k
theorem TW_cong {M N : z_Mem} {P : Nat} {a b : Nat → Nat} (h : TW M P a b) (e3 : N.1 3 0 = M.1 3 0) (e4 : N.1 4 = M.1 4) (e5 : N.1 5 = M.1 5) : TW N P a b := by
  unfold TW; rw [e3, e4, e5]; exact h
theorem TK_cong {M N : z_Mem} {T : TT} (h : TK M T) (e3 : N.1 3 0 = M.1 3 0) (e4 : N.1 4 = M.1 4) (e5 : N.1 5 = M.1 5) (e6 : N.1 6 = M.1 6) (e7 : N.1 7 = M.1 7) : TK N T := by
  refine ⟨TW_cong h.1 e3 e4 e5, ?_⟩
  rw [e6, e7]; exact h.2
def gvF (T : TT) (w : Nat → Int32) (o : Int32) (L : Nat → Int32) : Nat → Int32
  | 0 => 0
  | n + 1 => if bt o n = false ∧ hlF (T.2.2.2.1 n) (w n) (T.2.2.2.2 n) < L (T.2.1 n) + L (T.2.2.1 n) then gvF T w o L n ||| em n else gvF T w o L n
def bd1 (T : TT) (n : Nat) (L : Nat → Int32) : Nat → Int32 := upd (upd L (T.2.1 n) (L (T.2.1 n) + 1)) (T.2.2.1 n) (upd L (T.2.1 n) (L (T.2.1 n) + 1) (T.2.2.1 n) + 1)
def bdF (T : TT) (g : Int32) (L : Nat → Int32) : Nat → Nat → Int32
  | 0 => L
  | n + 1 => if bt g n = true then bd1 T n (bdF T g L n) else bdF T g L n
def pgF (T : TT) (w : Nat → Int32) (o : Int32) (L : Nat → Int32) : Nat → Int32 × (Nat → Int32)
  | 0 => (o, L)
  | n + 1 => ((pgF T w o L n).1 ||| gvF T w (pgF T w o L n).1 (pgF T w o L n).2 T.1, bdF T (gvF T w (pgF T w o L n).1 (pgF T w o L n).2 T.1) (pgF T w o L n).2 T.1)
def spF (kd : Nat → Int32) (o : Int32) : Nat → Int32
  | 0 => o
  | n + 1 => if kd n = 3 then spF kd o n &&& (em n ^^^ (-1)) else spF kd o n
def wnF (T : TT) (o : Int32) (L w : Nat → Int32) (n : Nat) : Nat → Int32 := fun k => if k < n ∧ T.2.2.2.2 k = 2 ∧ bt o k = false ∧ 1 ≤ L (T.2.1 k) + L (T.2.2.1 k) then w k + 1 else w k
theorem wnF_0 (T : TT) (o : Int32) (L w : Nat → Int32) : wnF T o L w 0 = w := funext fun k => by simp [wnF]
theorem wnF_no {T : TT} {o : Int32} {L w : Nat → Int32} {n : Nat} (h : ¬ (T.2.2.2.2 n = 2 ∧ bt o n = false ∧ 1 ≤ L (T.2.1 n) + L (T.2.2.1 n))) : wnF T o L w (n + 1) = wnF T o L w n := by
  funext k
  unfold wnF
  by_cases e : k = n
  · subst e
    rw [if_neg (fun q => h q.2), if_neg (fun q => h q.2)]
  · by_cases h2 : k < n
    · simp [h2, show k < n + 1 by omega]
    · simp [h2, show ¬ k < n + 1 by omega]
theorem wnF_yes {T : TT} {o : Int32} {L w : Nat → Int32} {n : Nat} (h : T.2.2.2.2 n = 2 ∧ bt o n = false ∧ 1 ≤ L (T.2.1 n) + L (T.2.2.1 n)) : upd (wnF T o L w n) n (wnF T o L w n n + 1) = wnF T o L w (n + 1) := by
  funext k
  unfold upd
  by_cases e : k = n
  · subst e
    rw [if_pos rfl]
    unfold wnF
    rw [if_neg (fun q => Nat.lt_irrefl _ q.1), if_pos ⟨Nat.lt_succ_self _, h⟩]
  · rw [if_neg e]
    unfold wnF
    by_cases h2 : k < n
    · simp [h2, show k < n + 1 by omega]
    · simp [h2, show ¬ k < n + 1 by omega]
/-- memory while it pings: the plight's open pins, the loads -/
def pm (M : z_Mem) (q : Nat) (o : Int32) (L : Nat → Int32) : z_Mem := z_row (z_set M q 0 o) 13 L
theorem upd_self (f : Nat → Int32) (k : Nat) : upd f k (f k) = f := funext fun j => by unfold upd; by_cases h : j = k <;> simp [h]
theorem upd_upd (f : Nat → Int32) (k : Nat) (v w : Int32) : upd (upd f k v) k w = upd f k w := funext fun j => by unfold upd; by_cases h : j = k <;> simp [h]
theorem upd_1 (f : Nat → Int32) (k : Nat) (v : Int32) : upd f k v k = v := by simp [upd]
theorem upd_n (f : Nat → Int32) {k j : Nat} (v : Int32) (h : j ≠ k) : upd f k v j = f j := by simp [upd, h]
theorem z_set_self (M : z_Mem) (q k : Nat) : z_set M q k (M.1 q k) = M := by rw [z_set, upd_self, z_row_same]
theorem pm_self (M : z_Mem) (q : Nat) : pm M q (M.1 q 0) (M.1 13) = M := by rw [pm, z_set_self, z_row_same]
theorem pm_13 (M : z_Mem) (q : Nat) (o : Int32) (L : Nat → Int32) : (pm M q o L).1 13 = L := z_row_1 _ _ _
theorem pm_q (M : z_Mem) {q : Nat} (hq : q ≠ 13) (o : Int32) (L : Nat → Int32) : (pm M q o L).1 q = upd (M.1 q) 0 o := by rw [pm, z_row_n _ _ hq, z_set, z_row_1]
theorem pm_q0 (M : z_Mem) {q : Nat} (hq : q ≠ 13) (o : Int32) (L : Nat → Int32) : (pm M q o L).1 q 0 = o := by rw [pm_q M hq, upd_1]
theorem pm_n (M : z_Mem) {q i : Nat} (h1 : i ≠ q) (h2 : i ≠ 13) (o : Int32) (L : Nat → Int32) : (pm M q o L).1 i = M.1 i := by rw [pm, z_row_n _ _ h2, z_set, z_row_n _ _ h1]
theorem pm_row (M : z_Mem) (q : Nat) (o : Int32) (L L2 : Nat → Int32) : z_row (pm M q o L) 13 L2 = pm M q o L2 := z_row_row _ _ _ _
theorem pm_set (M : z_Mem) {q : Nat} (hq : q ≠ 13) (o o2 : Int32) (L : Nat → Int32) : z_set (pm M q o L) q 0 o2 = pm M q o2 L := by
  rw [z_set, pm_q M hq, upd_upd, pm, z_row_comm _ _ _ (Ne.symm hq)]
  show z_row (z_row (z_row M q (upd (M.1 q) 0 o)) q (upd (M.1 q) 0 o2)) 13 L = z_row (z_row M q (upd (M.1 q) 0 o2)) 13 L
  rw [z_row_row]
theorem TK_pm {M : z_Mem} {T : TT} (h : TK M T) {q : Nat} (hq : 13 < q) (o : Int32) (L : Nat → Int32) : TK (pm M q o L) T := TK_cong h (by rw [pm_n M (by omega) (by omega)]) (by rw [pm_n M (by omega) (by omega)]) (by rw [pm_n M (by omega) (by omega)]) (by rw [pm_n M (by omega) (by omega)]) (by rw [pm_n M (by omega) (by omega)])
set_option maxRecDepth 100000 in
set_option maxHeartbeats 400000 in
theorem s_X1_clear_2 {M M2 : z_Mem} {r : Option Value}  (kk : z_Sm mX1_clear r M2 21 [some (.ref 12), none] [] (z_row M 13 (cpF (6) (fun _ => 0) (M.1 13)))) (j : Nat) (hj : j ≤ 6) (ij : Int32) (Mj : z_Mem) (h2 : ij = nI j) (hM : Mj = z_row M 13 (cpF j (fun _ => 0) (M.1 13))) : z_Sm mX1_clear r M2 2 [some (.ref 12), some (.int ij)] [] Mj := by
  refine z_iload_n (pc := 2) dX1_clear_2 rfl ?_
  refine z_bipush (pc := 3) (v := 6) dX1_clear_3 (by decide) ?_
  refine z_icmp_ge (pc := 5) (tgt := 21) dX1_clear_5 (by decide) (fun h5 => ?_) (fun h5 => ?_)
  · have hNj : 6 ≤ j := by
      have := z_ge h5 h2 (show (6 : Int32) = nI 6 from rfl) (by omega) (by omega)
      omega
    obtain rfl : j = 6 := by omega
    subst hM
    exact z_drop 1 kk
  · have hlt : j < 6 := by
      have := z_lt h5 h2 (show (6 : Int32) = nI 6 from rfl) (by omega) (by omega)
      omega
    refine z_aload_n (pc := 8) dX1_clear_8 rfl ?_
    refine z_getR (pc := 9) 13 q_fX1_9 z_s12 rfl dX1_clear_9 ?_
    refine z_iload_n (pc := 12) dX1_clear_12 rfl ?_
    refine z_iconst (pc := 13) (v := 0) dX1_clear_13 (by decide) ?_
    refine z_iast (pc := 14) (j) z_s13 ⟨h2, by omega, by decide⟩ dX1_clear_14 ?_
    refine z_iinc (pc := 15) dX1_clear_15 rfl rfl rfl (by decide) ?_
    refine z_goto (pc := 18) (tgt := 2) dX1_clear_18 (by decide) ?_
    exact s_X1_clear_2  kk (j + 1) hlt _ _ (z_n1 h2) (by rw [hM, z_set, z_row_1, z_row_row]; exact congrArg (z_row M 13) (cpF_s j (fun _ => 0) (M.1 13)))
termination_by 6 - j
decreasing_by all_goals omega
set_option maxRecDepth 100000 in
set_option maxHeartbeats 400000 in
theorem c_X1_clear {M : z_Mem}  : z_Ct mX1_clear [.ref 12] M none (z_row M 13 (cpF 6 (fun _ => 0) (M.1 13))) := by
  refine z_entry (by decide +kernel) (Nat.le_of_ble_eq_true rfl) rfl ?_
  show z_Sm mX1_clear _ _ 0 [some (.ref 12), none] [] M
  refine z_iconst (pc := 0) (v := 0) dX1_clear_0 (by decide) ?_
  refine z_istore_n (pc := 1) dX1_clear_1 rfl (by decide) ?_
  refine s_X1_clear_2 ?_ 0 (by omega) _ _ rfl (by rw [cpF_0, z_row_same])
  refine z_vret (pc := 21) rfl dX1_clear_21 ?_
  rfl
set_option maxRecDepth 100000 in
set_option maxHeartbeats 400000 in
theorem c_X1_burden {M : z_Mem} {x n : Int32} {t : Nat} (hx : x = nI t) (ht : t < 6) : z_Ct mX1_burden [.ref 12, .int x, .int n] M none (z_row M 13 (upd (M.1 13) t (M.1 13 t + n))) := by
  refine z_entry (by decide +kernel) (Nat.le_of_ble_eq_true rfl) rfl ?_
  show z_Sm mX1_burden _ _ 0 [some (.ref 12), some (.int x), some (.int n)] [] M
  refine z_aload_n (pc := 0) dX1_burden_0 rfl ?_
  refine z_getR (pc := 1) 13 q_fX1_9 z_s12 rfl dX1_burden_1 ?_
  refine z_iload_n (pc := 4) dX1_burden_4 rfl ?_
  refine z_dup2 (pc := 5) dX1_burden_5 rfl rfl ?_
  refine z_iald (pc := 6) (t) z_s13 ⟨hx, ht, by decide⟩ dX1_burden_6 ?_
  refine z_iload_n (pc := 7) dX1_burden_7 rfl ?_
  refine z_iadd (pc := 8) dX1_burden_8 ?_
  refine z_iast (pc := 9) (t) z_s13 ⟨hx, ht, by decide⟩ dX1_burden_9 ?_
  refine z_vret (pc := 10) rfl dX1_burden_10 ?_
  rfl
set_option maxRecDepth 100000 in
set_option maxHeartbeats 400000 in
theorem c_X1_burdenEnds {M : z_Mem} {T : TT} (hT : TK M T) {x : Int32} {j : Nat} (hx : x = nI j) (hj : j < T.1) : z_Ct mX1_burdenEnds [.ref 12, .int x] M none (z_row M 13 (bd1 T j (M.1 13))) := by
  obtain ⟨⟨hP, hP7, hab⟩, -⟩ := hT
  obtain ⟨ha, hb, ha6, hb6⟩ := hab j hj
  refine z_entry (by decide +kernel) (Nat.le_of_ble_eq_true rfl) rfl ?_
  show z_Sm mX1_burdenEnds _ _ 0 [some (.ref 12), some (.int x)] [] M
  refine z_aload_n (pc := 0) dX1_burdenEnds_0 rfl ?_
  refine z_getR (pc := 1) 13 q_fX1_9 z_s12 rfl dX1_burdenEnds_1 ?_
  refine z_aload_n (pc := 4) dX1_burdenEnds_4 rfl ?_
  refine z_getR (pc := 5) 3 q_fX1_15 z_s12 rfl dX1_burdenEnds_5 ?_
  refine z_getR (pc := 8) 4 q_fX1_19 z_s3 rfl dX1_burdenEnds_8 ?_
  refine z_iload_n (pc := 11) dX1_burdenEnds_11 rfl ?_
  refine z_iald (pc := 12) (j) z_s4 ⟨hx, by omega, by decide⟩ dX1_burdenEnds_12 ?_
  refine z_dup2 (pc := 13) dX1_burdenEnds_13 rfl rfl ?_
  refine z_iald (pc := 14) (T.2.1 j) z_s13 ⟨ha, ha6, by decide⟩ dX1_burdenEnds_14 ?_
  refine z_iconst (pc := 15) (v := 1) dX1_burdenEnds_15 (by decide) ?_
  refine z_iadd (pc := 16) dX1_burdenEnds_16 ?_
  refine z_iast (pc := 17) (T.2.1 j) z_s13 ⟨ha, ha6, by decide⟩ dX1_burdenEnds_17 ?_
  refine z_aload_n (pc := 18) dX1_burdenEnds_18 rfl ?_
  refine z_getR (pc := 19) 13 q_fX1_9 z_s12 rfl dX1_burdenEnds_19 ?_
  refine z_aload_n (pc := 22) dX1_burdenEnds_22 rfl ?_
  refine z_getR (pc := 23) 3 q_fX1_15 z_s12 rfl dX1_burdenEnds_23 ?_
  refine z_getR (pc := 26) 5 q_fX1_24 z_s3 rfl dX1_burdenEnds_26 ?_
  refine z_iload_n (pc := 29) dX1_burdenEnds_29 rfl ?_
  refine z_iald (pc := 30) (j) z_s5 ⟨hx, by omega, by decide⟩ dX1_burdenEnds_30 ?_
  refine z_dup2 (pc := 31) dX1_burdenEnds_31 rfl rfl ?_
  refine z_iald (pc := 32) (T.2.2.1 j) z_s13 ⟨hb, hb6, by decide⟩ dX1_burdenEnds_32 ?_
  refine z_iconst (pc := 33) (v := 1) dX1_burdenEnds_33 (by decide) ?_
  refine z_iadd (pc := 34) dX1_burdenEnds_34 ?_
  refine z_iast (pc := 35) (T.2.2.1 j) z_s13 ⟨hb, hb6, by decide⟩ dX1_burdenEnds_35 ?_
  refine z_vret (pc := 36) rfl dX1_burdenEnds_36 ?_
  rw [z_set, z_set, z_row_1, z_row_row]; rfl
set_option maxRecDepth 100000 in
set_option maxHeartbeats 400000 in
theorem c_X1_loadOf {M : z_Mem} {T : TT} (hT : TK M T) {x : Int32} {j : Nat} (hx : x = nI j) (hj : j < T.1) : z_Ct mX1_loadOf [.ref 12, .int x] M (some (.int (M.1 13 (T.2.1 j) + M.1 13 (T.2.2.1 j)))) M := by
  obtain ⟨⟨hP, hP7, hab⟩, -⟩ := hT
  obtain ⟨ha, hb, ha6, hb6⟩ := hab j hj
  refine z_entry (by decide +kernel) (Nat.le_of_ble_eq_true rfl) rfl ?_
  show z_Sm mX1_loadOf _ _ 0 [some (.ref 12), some (.int x)] [] M
  refine z_aload_n (pc := 0) dX1_loadOf_0 rfl ?_
  refine z_getR (pc := 1) 13 q_fX1_9 z_s12 rfl dX1_loadOf_1 ?_
  refine z_aload_n (pc := 4) dX1_loadOf_4 rfl ?_
  refine z_getR (pc := 5) 3 q_fX1_15 z_s12 rfl dX1_loadOf_5 ?_
  refine z_getR (pc := 8) 4 q_fX1_19 z_s3 rfl dX1_loadOf_8 ?_
  refine z_iload_n (pc := 11) dX1_loadOf_11 rfl ?_
  refine z_iald (pc := 12) (j) z_s4 ⟨hx, by omega, by decide⟩ dX1_loadOf_12 ?_
  refine z_iald (pc := 13) (T.2.1 j) z_s13 ⟨ha, ha6, by decide⟩ dX1_loadOf_13 ?_
  refine z_aload_n (pc := 14) dX1_loadOf_14 rfl ?_
  refine z_getR (pc := 15) 13 q_fX1_9 z_s12 rfl dX1_loadOf_15 ?_
  refine z_aload_n (pc := 18) dX1_loadOf_18 rfl ?_
  refine z_getR (pc := 19) 3 q_fX1_15 z_s12 rfl dX1_loadOf_19 ?_
  refine z_getR (pc := 22) 5 q_fX1_24 z_s3 rfl dX1_loadOf_22 ?_
  refine z_iload_n (pc := 25) dX1_loadOf_25 rfl ?_
  refine z_iald (pc := 26) (j) z_s5 ⟨hx, by omega, by decide⟩ dX1_loadOf_26 ?_
  refine z_iald (pc := 27) (T.2.2.1 j) z_s13 ⟨hb, hb6, by decide⟩ dX1_loadOf_27 ?_
  refine z_iadd (pc := 28) dX1_loadOf_28 ?_
  refine z_iret (pc := 29) rfl dX1_loadOf_29 ?_ ?_
  · rfl
  · rfl
set_option maxRecDepth 100000 in
set_option maxHeartbeats 400000 in
theorem c_X2_isOpen_14 {M : z_Mem} {x : Int32} {j : Nat} (hx : x = nI j) (hj : j < 32) : z_Ct mX2_isOpen [.ref 14, .int x] M (some (.int (if bt (M.1 14 0) j then 1 else 0))) M := by
  refine z_entry (by decide +kernel) (Nat.le_of_ble_eq_true rfl) rfl ?_
  show z_Sm mX2_isOpen _ _ 0 [some (.ref 14), some (.int x)] [] M
  refine z_aload_n (pc := 0) dX2_isOpen_0 rfl ?_
  refine z_getI (pc := 1) q_fX2_9 z_s14 rfl dX2_isOpen_1 ?_
  refine z_iconst (pc := 4) (v := 1) dX2_isOpen_4 (by decide) ?_
  refine z_iload_n (pc := 5) dX2_isOpen_5 rfl ?_
  refine z_ishl (pc := 6) dX2_isOpen_6 ?_
  refine z_iand (pc := 7) dX2_isOpen_7 ?_
  refine z_if_eq (pc := 8) (tgt := 15) dX2_isOpen_8 (by decide) (fun h8 => ?_) (fun h8 => ?_)
  · refine z_iconst (pc := 15) (v := 0) dX2_isOpen_15 (by decide) ?_
    refine z_zret (pc := 16) rfl dX2_isOpen_16 ?_ ?_ ?_
    · rfl
    · rw [hx] at h8
      rw [(z_b0 _ hj).mp h8]; rfl
    · rfl
  · refine z_iconst (pc := 11) (v := 1) dX2_isOpen_11 (by decide) ?_
    refine z_goto (pc := 12) (tgt := 16) dX2_isOpen_12 (by decide) ?_
    refine z_zret (pc := 16) rfl dX2_isOpen_16 ?_ ?_ ?_
    · rfl
    · rw [hx] at h8
      rw [z_nb (fun q => h8 ((z_b0 (M.1 14 0) hj).mpr q))]; rfl
    · rfl
set_option maxRecDepth 100000 in
set_option maxHeartbeats 400000 in
theorem s_X1_givingNow_4_14 {M M2 : z_Mem} {r : Option Value} {T : TT} (hT : TK M T) (kk : z_Sm mX1_givingNow r M2 57 [some (.ref 12), some (.ref 14), some (.int (gvF T (M.1 15) (M.1 14 0) (M.1 13) (T.1))), none] [] (M)) (j : Nat) (hj : j ≤ T.1) (ij : Int32) (g : Int32) (h2 : ij = nI j) (hv_g : g = gvF T (M.1 15) (M.1 14 0) (M.1 13) j) : z_Sm mX1_givingNow r M2 4 [some (.ref 12), some (.ref 14), some (.int g), some (.int ij)] [] M := by
  have hP7 := hT.1.2.1
  refine z_iload_n (pc := 4) dX1_givingNow_4 rfl ?_
  refine z_aload_n (pc := 5) dX1_givingNow_5 rfl ?_
  refine z_getR (pc := 6) 3 q_fX1_15 z_s12 rfl dX1_givingNow_6 ?_
  refine z_getI (pc := 9) q_fX1_39 z_s3 rfl dX1_givingNow_9 ?_
  refine z_icmp_ge (pc := 12) (tgt := 57) dX1_givingNow_12 (by decide) (fun h12 => ?_) (fun h12 => ?_)
  · have hNj : T.1 ≤ j := by
      have := z_ge h12 h2 hT.1.1 (by omega) (by omega)
      omega
    obtain rfl : j = T.1 := by omega
    subst hv_g
    exact z_drop 3 kk
  · have hlt : j < T.1 := by
      have := z_lt h12 h2 hT.1.1 (by omega) (by omega)
      omega
    obtain ⟨hs, hk⟩ := hT.2 j hlt
    refine z_aload_n (pc := 15) dX1_givingNow_15 rfl ?_
    refine z_iload_n (pc := 16) dX1_givingNow_16 rfl ?_
    refine z_cV1 (pc := 17) (c_X2_isOpen_14 h2 (by omega)) (q_cX1_50 _ (by decide)) z_s14 rfl rfl dX1_givingNow_17 ?_
    refine z_if_ne (pc := 20) (tgt := 51) dX1_givingNow_20 (by decide) (fun h20 => ?_) (fun h20 => ?_)
    · refine z_iinc (pc := 51) dX1_givingNow_51 rfl rfl rfl (by decide) ?_
      refine z_goto (pc := 54) (tgt := 4) dX1_givingNow_54 (by decide) ?_
      have hb : bt (M.1 14 0) j = true := by
        cases q : bt (M.1 14 0) j
        · rw [q] at h20; exact absurd rfl h20
        · rfl
      exact s_X1_givingNow_4_14 hT kk (j + 1) hlt _ _ (z_n1 h2) (by rw [hv_g, gvF, if_neg (by rw [hb]; simp)])
    · refine z_aload_n (pc := 23) dX1_givingNow_23 rfl ?_
      refine z_iload_n (pc := 24) dX1_givingNow_24 rfl ?_
      refine z_cV1 (pc := 25) (c_X1_loadOf hT h2 hlt) (q_cX1_54 _ (by decide)) z_s12 rfl rfl dX1_givingNow_25 ?_
      refine z_aload_n (pc := 28) dX1_givingNow_28 rfl ?_
      refine z_getR (pc := 29) 3 q_fX1_15 z_s12 rfl dX1_givingNow_29 ?_
      refine z_iload_n (pc := 32) dX1_givingNow_32 rfl ?_
      refine z_aload_n (pc := 33) dX1_givingNow_33 rfl ?_
      refine z_getR (pc := 34) 15 q_fX1_57 z_s14 rfl dX1_givingNow_34 ?_
      refine z_iload_n (pc := 37) dX1_givingNow_37 rfl ?_
      refine z_iald (pc := 38) (j) z_s15 ⟨h2, by omega, by decide⟩ dX1_givingNow_38 ?_
      refine z_cV2 (pc := 39) (c_X4_holds h2 (by omega)) (q_cX1_60 _ (by decide)) z_s3 rfl rfl dX1_givingNow_39 ?_
      refine z_icmp_le (pc := 42) (tgt := 51) dX1_givingNow_42 (by decide) (fun h42 => ?_) (fun h42 => ?_)
      · refine z_iinc (pc := 51) dX1_givingNow_51 rfl rfl rfl (by decide) ?_
        refine z_goto (pc := 54) (tgt := 4) dX1_givingNow_54 (by decide) ?_
        rw [hs, hk] at h42
        exact s_X1_givingNow_4_14 hT kk (j + 1) hlt _ _ (z_n1 h2) (by rw [hv_g, gvF, if_neg (fun q => (Int32.not_lt.mpr h42) q.2)])
      · refine z_iload_n (pc := 45) dX1_givingNow_45 rfl ?_
        refine z_iconst (pc := 46) (v := 1) dX1_givingNow_46 (by decide) ?_
        refine z_iload_n (pc := 47) dX1_givingNow_47 rfl ?_
        refine z_ishl (pc := 48) dX1_givingNow_48 ?_
        refine z_ior (pc := 49) dX1_givingNow_49 ?_
        refine z_istore_n (pc := 50) dX1_givingNow_50 rfl (by decide) ?_
        refine z_iinc (pc := 51) dX1_givingNow_51 rfl rfl rfl (by decide) ?_
        refine z_goto (pc := 54) (tgt := 4) dX1_givingNow_54 (by decide) ?_
        rw [hs, hk] at h42
        have hb : bt (M.1 14 0) j = false := by
          cases q : bt (M.1 14 0) j
          · rfl
          · rw [q] at h20; exact absurd h20 (by decide)
        exact s_X1_givingNow_4_14 hT kk (j + 1) hlt _ _ (z_n1 h2) (by rw [hv_g, gvF, if_pos ⟨hb, Int32.not_le.mp h42⟩, h2]; rfl)
termination_by T.1 - j
decreasing_by all_goals omega
set_option maxRecDepth 100000 in
set_option maxHeartbeats 400000 in
theorem c_X1_givingNow_14 {M : z_Mem} {T : TT} (hT : TK M T) : z_Ct mX1_givingNow [.ref 12, .ref 14] M (some (.int (gvF T (M.1 15) (M.1 14 0) (M.1 13) T.1))) M := by
  refine z_entry (by decide +kernel) (Nat.le_of_ble_eq_true rfl) rfl ?_
  show z_Sm mX1_givingNow _ _ 0 [some (.ref 12), some (.ref 14), none, none] [] M
  refine z_iconst (pc := 0) (v := 0) dX1_givingNow_0 (by decide) ?_
  refine z_istore_n (pc := 1) dX1_givingNow_1 rfl (by decide) ?_
  refine z_iconst (pc := 2) (v := 0) dX1_givingNow_2 (by decide) ?_
  refine z_istore_n (pc := 3) dX1_givingNow_3 rfl (by decide) ?_
  refine s_X1_givingNow_4_14 hT ?_ 0 (Nat.zero_le _) _ _ rfl rfl
  refine z_iload_n (pc := 57) dX1_givingNow_57 rfl ?_
  refine z_iret (pc := 58) rfl dX1_givingNow_58 ?_ ?_
  · rfl
  · rfl
set_option maxRecDepth 100000 in
set_option maxHeartbeats 400000 in
theorem s_X1_ping_42_14 {M M2 : z_Mem} {r : Option Value} {T : TT} (hT : TK M T) {b0 rd g o : Int32} {L : Nat → Int32} (kk : z_Sm mX1_ping r M2 76 [some (.ref 12), some (.ref 14), some (.int b0), some (.int rd), some (.int g), none] [] (pm M 14 o (bdF T g L (T.1)))) (j : Nat) (hj : j ≤ T.1) (ij : Int32) (Mj : z_Mem) (h2 : ij = nI j) (hM : Mj = pm M 14 o (bdF T g L j)) : z_Sm mX1_ping r M2 42 [some (.ref 12), some (.ref 14), some (.int b0), some (.int rd), some (.int g), some (.int ij)] [] Mj := by
  have hP7 := hT.1.2.1
  have hP : ∀ X, (pm M 14 o X).1 3 0 = nI T.1 := fun X => by rw [pm_n M (by decide) (by decide)]; exact hT.1.1
  subst hM
  refine z_iload (pc := 42) dX1_ping_42 rfl ?_
  refine z_aload_n (pc := 44) dX1_ping_44 rfl ?_
  refine z_getR (pc := 45) 3 q_fX1_15 z_s12 rfl dX1_ping_45 ?_
  refine z_getI (pc := 48) q_fX1_39 z_s3 rfl dX1_ping_48 ?_
  refine z_icmp_ge (pc := 51) (tgt := 76) dX1_ping_51 (by decide) (fun h51 => ?_) (fun h51 => ?_)
  · have hNj : T.1 ≤ j := by
      have := z_ge h51 h2 (hP _) (by omega) (by omega)
      omega
    obtain rfl : j = T.1 := by omega
    exact z_drop 5 kk
  · have hlt : j < T.1 := by
      have := z_lt h51 h2 (hP _) (by omega) (by omega)
      omega
    refine z_iload (pc := 54) dX1_ping_54 rfl ?_
    refine z_iconst (pc := 56) (v := 1) dX1_ping_56 (by decide) ?_
    refine z_iload (pc := 57) dX1_ping_57 rfl ?_
    refine z_ishl (pc := 59) dX1_ping_59 ?_
    refine z_iand (pc := 60) dX1_ping_60 ?_
    refine z_if_eq (pc := 61) (tgt := 70) dX1_ping_61 (by decide) (fun h61 => ?_) (fun h61 => ?_)
    · refine z_iinc (pc := 70) dX1_ping_70 rfl rfl rfl (by decide) ?_
      refine z_goto (pc := 73) (tgt := 42) dX1_ping_73 (by decide) ?_
      rw [h2] at h61
      have hb := (z_b0 g (k := j) (by omega)).mp h61
      exact s_X1_ping_42_14 hT kk (j + 1) hlt _ _ (z_n1 h2) (by rw [bdF, if_neg (by rw [hb]; simp)])
    · refine z_aload_n (pc := 64) dX1_ping_64 rfl ?_
      refine z_iload (pc := 65) dX1_ping_65 rfl ?_
      refine z_cV1v (pc := 67) (c_X1_burdenEnds (TK_pm hT (by decide) _ _) h2 hlt) (q_cX1_46 _ (by decide)) z_s12 rfl rfl dX1_ping_67 ?_
      refine z_iinc (pc := 70) dX1_ping_70 rfl rfl rfl (by decide) ?_
      refine z_goto (pc := 73) (tgt := 42) dX1_ping_73 (by decide) ?_
      rw [h2] at h61
      have hb := z_nb (fun q => h61 ((z_b0 g (k := j) (by omega)).mpr q))
      exact s_X1_ping_42_14 hT kk (j + 1) hlt _ _ (z_n1 h2) (by rw [bdF, if_pos hb, pm_13, pm_row])
termination_by T.1 - j
decreasing_by all_goals omega
set_option maxRecDepth 100000 in
set_option maxHeartbeats 400000 in
theorem s_X1_ping_10_14 {M M2 : z_Mem} {r : Option Value} {T : TT} (hT : TK M T) {b0 o : Int32} {L : Nat → Int32} (kk : z_Sm mX1_ping r M2 82 [some (.ref 12), some (.ref 14), some (.int b0), none, none, none] [] (pm M 14 (pgF T (M.1 15) o L (T.1 + 1)).1 (pgF T (M.1 15) o L (T.1 + 1)).2)) (j : Nat) (hj : j ≤ T.1 + 1) (ij : Int32) (Mj : z_Mem) (h2 : ij = nI j) (hM : Mj = pm M 14 (pgF T (M.1 15) o L j).1 (pgF T (M.1 15) o L j).2) : z_Sm mX1_ping r M2 10 [some (.ref 12), some (.ref 14), some (.int b0), some (.int ij), none, none] [] Mj := by
  have hP7 := hT.1.2.1
  have hP : ∀ Y X, (pm M 14 Y X).1 3 0 = nI T.1 := fun Y X => by rw [pm_n M (by decide) (by decide)]; exact hT.1.1
  subst hM
  refine z_iload_n (pc := 10) dX1_ping_10 rfl ?_
  refine z_aload_n (pc := 11) dX1_ping_11 rfl ?_
  refine z_getR (pc := 12) 3 q_fX1_15 z_s12 rfl dX1_ping_12 ?_
  refine z_getI (pc := 15) q_fX1_39 z_s3 rfl dX1_ping_15 ?_
  refine z_icmp_gt (pc := 18) (tgt := 82) dX1_ping_18 (by decide) (fun h18 => ?_) (fun h18 => ?_)
  · have hNj : T.1 + 1 ≤ j := by
      have := z_gt h18 h2 (hP _ _) (by omega) (by omega)
      omega
    obtain rfl : j = T.1 + 1 := by omega
    exact z_drop 3 kk
  · have hlt : j < T.1 + 1 := by
      have := z_ngt h18 h2 (hP _ _) (by omega) (by omega)
      omega
    refine z_aload_n (pc := 21) dX1_ping_21 rfl ?_
    refine z_aload_n (pc := 22) dX1_ping_22 rfl ?_
    refine z_cV1 (pc := 23) (c_X1_givingNow_14 (TK_pm hT (by decide) _ _)) (q_cX1_42 _ (by decide)) z_s12 rfl rfl dX1_ping_23 ?_
    refine z_istore (pc := 26) dX1_ping_26 rfl (by decide) ?_
    refine z_aload_n (pc := 28) dX1_ping_28 rfl ?_
    refine z_dup (pc := 29) dX1_ping_29 rfl ?_
    refine z_getI (pc := 30) q_fX1_27 z_s14 rfl dX1_ping_30 ?_
    refine z_iload (pc := 33) dX1_ping_33 rfl ?_
    refine z_ior (pc := 35) dX1_ping_35 ?_
    refine z_putI (pc := 36) q_fX1_27 q_p2_0 z_s14 rfl dX1_ping_36 ?_
    refine z_iconst (pc := 39) (v := 0) dX1_ping_39 (by decide) ?_
    refine z_istore (pc := 40) dX1_ping_40 rfl (by decide) ?_
    refine s_X1_ping_42_14 hT (o := (pgF T (M.1 15) o L (j + 1)).1) (L := (pgF T (M.1 15) o L j).2) ?_ 0 (Nat.zero_le _) _ _ rfl (by rw [pm_q0 M (by decide), pm_13, pm_n M (by decide) (by decide), pm_set M (by decide)]; rfl)
    refine z_iinc (pc := 76) dX1_ping_76 rfl rfl rfl (by decide) ?_
    refine z_goto (pc := 79) (tgt := 10) dX1_ping_79 (by decide) ?_
    refine z_drop 4 ?_
    exact s_X1_ping_10_14 hT kk (j + 1) hlt _ _ (z_n1 h2) (by rw [pm_q0 M (by decide), pm_13, pm_n M (by decide) (by decide)]; rfl)
termination_by T.1 + 1 - j
decreasing_by all_goals omega
set_option maxRecDepth 100000 in
set_option maxHeartbeats 400000 in
theorem c_X2_isOpen_16 {M : z_Mem} {x : Int32} {j : Nat} (hx : x = nI j) (hj : j < 32) : z_Ct mX2_isOpen [.ref 16, .int x] M (some (.int (if bt (M.1 16 0) j then 1 else 0))) M := by
  refine z_entry (by decide +kernel) (Nat.le_of_ble_eq_true rfl) rfl ?_
  show z_Sm mX2_isOpen _ _ 0 [some (.ref 16), some (.int x)] [] M
  refine z_aload_n (pc := 0) dX2_isOpen_0 rfl ?_
  refine z_getI (pc := 1) q_fX2_9 z_s16 rfl dX2_isOpen_1 ?_
  refine z_iconst (pc := 4) (v := 1) dX2_isOpen_4 (by decide) ?_
  refine z_iload_n (pc := 5) dX2_isOpen_5 rfl ?_
  refine z_ishl (pc := 6) dX2_isOpen_6 ?_
  refine z_iand (pc := 7) dX2_isOpen_7 ?_
  refine z_if_eq (pc := 8) (tgt := 15) dX2_isOpen_8 (by decide) (fun h8 => ?_) (fun h8 => ?_)
  · refine z_iconst (pc := 15) (v := 0) dX2_isOpen_15 (by decide) ?_
    refine z_zret (pc := 16) rfl dX2_isOpen_16 ?_ ?_ ?_
    · rfl
    · rw [hx] at h8
      rw [(z_b0 _ hj).mp h8]; rfl
    · rfl
  · refine z_iconst (pc := 11) (v := 1) dX2_isOpen_11 (by decide) ?_
    refine z_goto (pc := 12) (tgt := 16) dX2_isOpen_12 (by decide) ?_
    refine z_zret (pc := 16) rfl dX2_isOpen_16 ?_ ?_ ?_
    · rfl
    · rw [hx] at h8
      rw [z_nb (fun q => h8 ((z_b0 (M.1 16 0) hj).mpr q))]; rfl
    · rfl
set_option maxRecDepth 100000 in
set_option maxHeartbeats 400000 in
theorem s_X1_givingNow_4_16 {M M2 : z_Mem} {r : Option Value} {T : TT} (hT : TK M T) (kk : z_Sm mX1_givingNow r M2 57 [some (.ref 12), some (.ref 16), some (.int (gvF T (M.1 17) (M.1 16 0) (M.1 13) (T.1))), none] [] (M)) (j : Nat) (hj : j ≤ T.1) (ij : Int32) (g : Int32) (h2 : ij = nI j) (hv_g : g = gvF T (M.1 17) (M.1 16 0) (M.1 13) j) : z_Sm mX1_givingNow r M2 4 [some (.ref 12), some (.ref 16), some (.int g), some (.int ij)] [] M := by
  have hP7 := hT.1.2.1
  refine z_iload_n (pc := 4) dX1_givingNow_4 rfl ?_
  refine z_aload_n (pc := 5) dX1_givingNow_5 rfl ?_
  refine z_getR (pc := 6) 3 q_fX1_15 z_s12 rfl dX1_givingNow_6 ?_
  refine z_getI (pc := 9) q_fX1_39 z_s3 rfl dX1_givingNow_9 ?_
  refine z_icmp_ge (pc := 12) (tgt := 57) dX1_givingNow_12 (by decide) (fun h12 => ?_) (fun h12 => ?_)
  · have hNj : T.1 ≤ j := by
      have := z_ge h12 h2 hT.1.1 (by omega) (by omega)
      omega
    obtain rfl : j = T.1 := by omega
    subst hv_g
    exact z_drop 3 kk
  · have hlt : j < T.1 := by
      have := z_lt h12 h2 hT.1.1 (by omega) (by omega)
      omega
    obtain ⟨hs, hk⟩ := hT.2 j hlt
    refine z_aload_n (pc := 15) dX1_givingNow_15 rfl ?_
    refine z_iload_n (pc := 16) dX1_givingNow_16 rfl ?_
    refine z_cV1 (pc := 17) (c_X2_isOpen_16 h2 (by omega)) (q_cX1_50 _ (by decide)) z_s16 rfl rfl dX1_givingNow_17 ?_
    refine z_if_ne (pc := 20) (tgt := 51) dX1_givingNow_20 (by decide) (fun h20 => ?_) (fun h20 => ?_)
    · refine z_iinc (pc := 51) dX1_givingNow_51 rfl rfl rfl (by decide) ?_
      refine z_goto (pc := 54) (tgt := 4) dX1_givingNow_54 (by decide) ?_
      have hb : bt (M.1 16 0) j = true := by
        cases q : bt (M.1 16 0) j
        · rw [q] at h20; exact absurd rfl h20
        · rfl
      exact s_X1_givingNow_4_16 hT kk (j + 1) hlt _ _ (z_n1 h2) (by rw [hv_g, gvF, if_neg (by rw [hb]; simp)])
    · refine z_aload_n (pc := 23) dX1_givingNow_23 rfl ?_
      refine z_iload_n (pc := 24) dX1_givingNow_24 rfl ?_
      refine z_cV1 (pc := 25) (c_X1_loadOf hT h2 hlt) (q_cX1_54 _ (by decide)) z_s12 rfl rfl dX1_givingNow_25 ?_
      refine z_aload_n (pc := 28) dX1_givingNow_28 rfl ?_
      refine z_getR (pc := 29) 3 q_fX1_15 z_s12 rfl dX1_givingNow_29 ?_
      refine z_iload_n (pc := 32) dX1_givingNow_32 rfl ?_
      refine z_aload_n (pc := 33) dX1_givingNow_33 rfl ?_
      refine z_getR (pc := 34) 17 q_fX1_57 z_s16 rfl dX1_givingNow_34 ?_
      refine z_iload_n (pc := 37) dX1_givingNow_37 rfl ?_
      refine z_iald (pc := 38) (j) z_s17 ⟨h2, by omega, by decide⟩ dX1_givingNow_38 ?_
      refine z_cV2 (pc := 39) (c_X4_holds h2 (by omega)) (q_cX1_60 _ (by decide)) z_s3 rfl rfl dX1_givingNow_39 ?_
      refine z_icmp_le (pc := 42) (tgt := 51) dX1_givingNow_42 (by decide) (fun h42 => ?_) (fun h42 => ?_)
      · refine z_iinc (pc := 51) dX1_givingNow_51 rfl rfl rfl (by decide) ?_
        refine z_goto (pc := 54) (tgt := 4) dX1_givingNow_54 (by decide) ?_
        rw [hs, hk] at h42
        exact s_X1_givingNow_4_16 hT kk (j + 1) hlt _ _ (z_n1 h2) (by rw [hv_g, gvF, if_neg (fun q => (Int32.not_lt.mpr h42) q.2)])
      · refine z_iload_n (pc := 45) dX1_givingNow_45 rfl ?_
        refine z_iconst (pc := 46) (v := 1) dX1_givingNow_46 (by decide) ?_
        refine z_iload_n (pc := 47) dX1_givingNow_47 rfl ?_
        refine z_ishl (pc := 48) dX1_givingNow_48 ?_
        refine z_ior (pc := 49) dX1_givingNow_49 ?_
        refine z_istore_n (pc := 50) dX1_givingNow_50 rfl (by decide) ?_
        refine z_iinc (pc := 51) dX1_givingNow_51 rfl rfl rfl (by decide) ?_
        refine z_goto (pc := 54) (tgt := 4) dX1_givingNow_54 (by decide) ?_
        rw [hs, hk] at h42
        have hb : bt (M.1 16 0) j = false := by
          cases q : bt (M.1 16 0) j
          · rfl
          · rw [q] at h20; exact absurd h20 (by decide)
        exact s_X1_givingNow_4_16 hT kk (j + 1) hlt _ _ (z_n1 h2) (by rw [hv_g, gvF, if_pos ⟨hb, Int32.not_le.mp h42⟩, h2]; rfl)
termination_by T.1 - j
decreasing_by all_goals omega
set_option maxRecDepth 100000 in
set_option maxHeartbeats 400000 in
theorem c_X1_givingNow_16 {M : z_Mem} {T : TT} (hT : TK M T) : z_Ct mX1_givingNow [.ref 12, .ref 16] M (some (.int (gvF T (M.1 17) (M.1 16 0) (M.1 13) T.1))) M := by
  refine z_entry (by decide +kernel) (Nat.le_of_ble_eq_true rfl) rfl ?_
  show z_Sm mX1_givingNow _ _ 0 [some (.ref 12), some (.ref 16), none, none] [] M
  refine z_iconst (pc := 0) (v := 0) dX1_givingNow_0 (by decide) ?_
  refine z_istore_n (pc := 1) dX1_givingNow_1 rfl (by decide) ?_
  refine z_iconst (pc := 2) (v := 0) dX1_givingNow_2 (by decide) ?_
  refine z_istore_n (pc := 3) dX1_givingNow_3 rfl (by decide) ?_
  refine s_X1_givingNow_4_16 hT ?_ 0 (Nat.zero_le _) _ _ rfl rfl
  refine z_iload_n (pc := 57) dX1_givingNow_57 rfl ?_
  refine z_iret (pc := 58) rfl dX1_givingNow_58 ?_ ?_
  · rfl
  · rfl
set_option maxRecDepth 100000 in
set_option maxHeartbeats 400000 in
theorem s_X1_ping_42_16 {M M2 : z_Mem} {r : Option Value} {T : TT} (hT : TK M T) {b0 rd g o : Int32} {L : Nat → Int32} (kk : z_Sm mX1_ping r M2 76 [some (.ref 12), some (.ref 16), some (.int b0), some (.int rd), some (.int g), none] [] (pm M 16 o (bdF T g L (T.1)))) (j : Nat) (hj : j ≤ T.1) (ij : Int32) (Mj : z_Mem) (h2 : ij = nI j) (hM : Mj = pm M 16 o (bdF T g L j)) : z_Sm mX1_ping r M2 42 [some (.ref 12), some (.ref 16), some (.int b0), some (.int rd), some (.int g), some (.int ij)] [] Mj := by
  have hP7 := hT.1.2.1
  have hP : ∀ X, (pm M 16 o X).1 3 0 = nI T.1 := fun X => by rw [pm_n M (by decide) (by decide)]; exact hT.1.1
  subst hM
  refine z_iload (pc := 42) dX1_ping_42 rfl ?_
  refine z_aload_n (pc := 44) dX1_ping_44 rfl ?_
  refine z_getR (pc := 45) 3 q_fX1_15 z_s12 rfl dX1_ping_45 ?_
  refine z_getI (pc := 48) q_fX1_39 z_s3 rfl dX1_ping_48 ?_
  refine z_icmp_ge (pc := 51) (tgt := 76) dX1_ping_51 (by decide) (fun h51 => ?_) (fun h51 => ?_)
  · have hNj : T.1 ≤ j := by
      have := z_ge h51 h2 (hP _) (by omega) (by omega)
      omega
    obtain rfl : j = T.1 := by omega
    exact z_drop 5 kk
  · have hlt : j < T.1 := by
      have := z_lt h51 h2 (hP _) (by omega) (by omega)
      omega
    refine z_iload (pc := 54) dX1_ping_54 rfl ?_
    refine z_iconst (pc := 56) (v := 1) dX1_ping_56 (by decide) ?_
    refine z_iload (pc := 57) dX1_ping_57 rfl ?_
    refine z_ishl (pc := 59) dX1_ping_59 ?_
    refine z_iand (pc := 60) dX1_ping_60 ?_
    refine z_if_eq (pc := 61) (tgt := 70) dX1_ping_61 (by decide) (fun h61 => ?_) (fun h61 => ?_)
    · refine z_iinc (pc := 70) dX1_ping_70 rfl rfl rfl (by decide) ?_
      refine z_goto (pc := 73) (tgt := 42) dX1_ping_73 (by decide) ?_
      rw [h2] at h61
      have hb := (z_b0 g (k := j) (by omega)).mp h61
      exact s_X1_ping_42_16 hT kk (j + 1) hlt _ _ (z_n1 h2) (by rw [bdF, if_neg (by rw [hb]; simp)])
    · refine z_aload_n (pc := 64) dX1_ping_64 rfl ?_
      refine z_iload (pc := 65) dX1_ping_65 rfl ?_
      refine z_cV1v (pc := 67) (c_X1_burdenEnds (TK_pm hT (by decide) _ _) h2 hlt) (q_cX1_46 _ (by decide)) z_s12 rfl rfl dX1_ping_67 ?_
      refine z_iinc (pc := 70) dX1_ping_70 rfl rfl rfl (by decide) ?_
      refine z_goto (pc := 73) (tgt := 42) dX1_ping_73 (by decide) ?_
      rw [h2] at h61
      have hb := z_nb (fun q => h61 ((z_b0 g (k := j) (by omega)).mpr q))
      exact s_X1_ping_42_16 hT kk (j + 1) hlt _ _ (z_n1 h2) (by rw [bdF, if_pos hb, pm_13, pm_row])
termination_by T.1 - j
decreasing_by all_goals omega
set_option maxRecDepth 100000 in
set_option maxHeartbeats 400000 in
theorem s_X1_ping_10_16 {M M2 : z_Mem} {r : Option Value} {T : TT} (hT : TK M T) {b0 o : Int32} {L : Nat → Int32} (kk : z_Sm mX1_ping r M2 82 [some (.ref 12), some (.ref 16), some (.int b0), none, none, none] [] (pm M 16 (pgF T (M.1 17) o L (T.1 + 1)).1 (pgF T (M.1 17) o L (T.1 + 1)).2)) (j : Nat) (hj : j ≤ T.1 + 1) (ij : Int32) (Mj : z_Mem) (h2 : ij = nI j) (hM : Mj = pm M 16 (pgF T (M.1 17) o L j).1 (pgF T (M.1 17) o L j).2) : z_Sm mX1_ping r M2 10 [some (.ref 12), some (.ref 16), some (.int b0), some (.int ij), none, none] [] Mj := by
  have hP7 := hT.1.2.1
  have hP : ∀ Y X, (pm M 16 Y X).1 3 0 = nI T.1 := fun Y X => by rw [pm_n M (by decide) (by decide)]; exact hT.1.1
  subst hM
  refine z_iload_n (pc := 10) dX1_ping_10 rfl ?_
  refine z_aload_n (pc := 11) dX1_ping_11 rfl ?_
  refine z_getR (pc := 12) 3 q_fX1_15 z_s12 rfl dX1_ping_12 ?_
  refine z_getI (pc := 15) q_fX1_39 z_s3 rfl dX1_ping_15 ?_
  refine z_icmp_gt (pc := 18) (tgt := 82) dX1_ping_18 (by decide) (fun h18 => ?_) (fun h18 => ?_)
  · have hNj : T.1 + 1 ≤ j := by
      have := z_gt h18 h2 (hP _ _) (by omega) (by omega)
      omega
    obtain rfl : j = T.1 + 1 := by omega
    exact z_drop 3 kk
  · have hlt : j < T.1 + 1 := by
      have := z_ngt h18 h2 (hP _ _) (by omega) (by omega)
      omega
    refine z_aload_n (pc := 21) dX1_ping_21 rfl ?_
    refine z_aload_n (pc := 22) dX1_ping_22 rfl ?_
    refine z_cV1 (pc := 23) (c_X1_givingNow_16 (TK_pm hT (by decide) _ _)) (q_cX1_42 _ (by decide)) z_s12 rfl rfl dX1_ping_23 ?_
    refine z_istore (pc := 26) dX1_ping_26 rfl (by decide) ?_
    refine z_aload_n (pc := 28) dX1_ping_28 rfl ?_
    refine z_dup (pc := 29) dX1_ping_29 rfl ?_
    refine z_getI (pc := 30) q_fX1_27 z_s16 rfl dX1_ping_30 ?_
    refine z_iload (pc := 33) dX1_ping_33 rfl ?_
    refine z_ior (pc := 35) dX1_ping_35 ?_
    refine z_putI (pc := 36) q_fX1_27 q_p2_0 z_s16 rfl dX1_ping_36 ?_
    refine z_iconst (pc := 39) (v := 0) dX1_ping_39 (by decide) ?_
    refine z_istore (pc := 40) dX1_ping_40 rfl (by decide) ?_
    refine s_X1_ping_42_16 hT (o := (pgF T (M.1 17) o L (j + 1)).1) (L := (pgF T (M.1 17) o L j).2) ?_ 0 (Nat.zero_le _) _ _ rfl (by rw [pm_q0 M (by decide), pm_13, pm_n M (by decide) (by decide), pm_set M (by decide)]; rfl)
    refine z_iinc (pc := 76) dX1_ping_76 rfl rfl rfl (by decide) ?_
    refine z_goto (pc := 79) (tgt := 10) dX1_ping_79 (by decide) ?_
    refine z_drop 4 ?_
    exact s_X1_ping_10_16 hT kk (j + 1) hlt _ _ (z_n1 h2) (by rw [pm_q0 M (by decide), pm_13, pm_n M (by decide) (by decide)]; rfl)
termination_by T.1 + 1 - j
decreasing_by all_goals omega
end
section
theorem gvF_sm (T : TT) (w : Nat → Int32) (o : Int32) (L : Nat → Int32) : ∀ n, n ≤ 7 → sm7 (gvF T w o L n)
  | 0, _ => sm7_0
  | n + 1, h => by
    have := gvF_sm T w o L n (by omega)
    unfold gvF
    split
    · exact sm7_or this (sm7_em (by omega))
    · exact this
theorem pgF_sm {T : TT} {w : Nat → Int32} {o : Int32} {L : Nat → Int32} (hP : T.1 ≤ 7) (ho : sm7 o) : ∀ n, sm7 (pgF T w o L n).1
  | 0 => ho
  | n + 1 => sm7_or (pgF_sm hP ho n) (gvF_sm T w _ _ _ hP)
theorem spF_sm {kd : Nat → Int32} {o : Int32} (ho : sm7 o) : ∀ n, sm7 (spF kd o n)
  | 0 => ho
  | n + 1 => by
    unfold spF
    split
    · exact sm7_and (spF_sm ho n)
    · exact spF_sm ho n
/-- a town's ends are things -/
def TE (T : TT) : Prop := ∀ k, k < T.1 → T.2.1 k < 6 ∧ T.2.2.1 k < 6
theorem TK.te {M : z_Mem} {T : TT} (h : TK M T) : TE T := fun k hk => (h.1.2.2 k hk).2.2
theorem gvF_cong {T : TT} (hE : TE T) {w v : Nat → Int32} {o : Int32} {L K : Nat → Int32} (hw : ∀ k, k < T.1 → w k = v k) (hL : ∀ k, k < 6 → L k = K k) : ∀ n, n ≤ T.1 → gvF T w o L n = gvF T v o K n
  | 0, _ => rfl
  | n + 1, h => by
    obtain ⟨h1, h2⟩ := hE n (by omega)
    rw [gvF, gvF, gvF_cong hE hw hL n (by omega), hw n (by omega), hL _ h1, hL _ h2]
theorem bd1_cong {T : TT} (hE : TE T) {L K : Nat → Int32} (hL : ∀ k, k < 6 → L k = K k) {n : Nat} (hn : n < T.1) : ∀ k, k < 6 → bd1 T n L k = bd1 T n K k := by
  obtain ⟨h1, h2⟩ := hE n hn
  intro k hk
  have e : ∀ i, i < 6 → upd L (T.2.1 n) (L (T.2.1 n) + 1) i = upd K (T.2.1 n) (K (T.2.1 n) + 1) i := by
    intro i hi
    unfold upd
    split
    · rw [hL _ h1]
    · exact hL i hi
  unfold bd1
  rw [e _ h2]
  show (if k = T.2.2.1 n then _ else _) = if k = T.2.2.1 n then _ else _
  split
  · rfl
  · exact e k hk
theorem bdF_cong {T : TT} (hE : TE T) {g : Int32} {L K : Nat → Int32} (hL : ∀ k, k < 6 → L k = K k) : ∀ n, n ≤ T.1 → ∀ k, k < 6 → bdF T g L n k = bdF T g K n k
  | 0, _ => hL
  | n + 1, h => by
    have ih := bdF_cong hE (g := g) hL n (by omega)
    unfold bdF
    split
    · exact bd1_cong hE ih (by omega)
    · exact ih
theorem pgF_cong {T : TT} (hE : TE T) {w v : Nat → Int32} {o : Int32} {L K : Nat → Int32} (hw : ∀ k, k < T.1 → w k = v k) (hL : ∀ k, k < 6 → L k = K k) : ∀ n, (pgF T w o L n).1 = (pgF T v o K n).1 ∧ ∀ k, k < 6 → (pgF T w o L n).2 k = (pgF T v o K n).2 k
  | 0 => ⟨rfl, hL⟩
  | n + 1 => by
    obtain ⟨i1, i2⟩ := pgF_cong hE hw hL n
    have e : gvF T w (pgF T w o L n).1 (pgF T w o L n).2 T.1 = gvF T v (pgF T v o K n).1 (pgF T v o K n).2 T.1 := by
      rw [i1]; exact gvF_cong hE hw i2 _ (Nat.le_refl _)
    unfold pgF
    rw [e, i1]
    exact ⟨rfl, bdF_cong hE i2 _ (Nat.le_refl _)⟩
theorem wnF_cong {T : TT} (hE : TE T) {o : Int32} {L K w v : Nat → Int32} (hw : ∀ k, k < 7 → w k = v k) (hL : ∀ k, k < 6 → L k = K k) {n : Nat} (hn : n ≤ T.1) : ∀ k, k < 7 → wnF T o L w n k = wnF T o K v n k := by
  intro k hk
  unfold wnF
  by_cases h : k < n
  · obtain ⟨h1, h2⟩ := hE k (by omega)
    rw [hL _ h1, hL _ h2, hw k hk]
  · rw [if_neg (fun q => h q.1), if_neg (fun q => h q.1), hw k hk]
theorem spF_cong {kd ke : Nat → Int32} {o : Int32} : ∀ n, (∀ k, k < n → kd k = ke k) → spF kd o n = spF ke o n
  | 0, _ => rfl
  | n + 1, h => by rw [spF, spF, spF_cong n (fun k hk => h k (by omega)), h n (by omega)]
/-- a plight: which pins are open, how they are worn, the day -/
abbrev PLt : Type := Int32 × (Nat → Int32) × Nat
def PlAt (M : z_Mem) (q : Nat) (p : PLt) : Prop := M.1 q 0 = p.1 ∧ (∀ k, k < 7 → M.1 (q + 1) k = p.2.1 k) ∧ M.1 q 2 = nI p.2.2
/-- nothing but these rows has changed -/
def Sb (ids : List Nat) (M N : z_Mem) : Prop := (∀ i, i ∉ ids → N.1 i = M.1 i) ∧ N.2 = M.2
theorem Sb.rf {ids : List Nat} {M : z_Mem} : Sb ids M M := ⟨fun _ _ => rfl, rfl⟩
theorem Sb.tr {ids : List Nat} {M N K : z_Mem} (h : Sb ids M N) (h2 : Sb ids N K) : Sb ids M K := ⟨fun i hi => (h2.1 i hi).trans (h.1 i hi), h2.2.trans h.2⟩
theorem Sb.wk {ids jds : List Nat} {M N : z_Mem} (h : Sb ids M N) (hs : ∀ i ∈ ids, i ∈ jds) : Sb jds M N := ⟨fun i hi => h.1 i (fun q => hi (hs i q)), h.2⟩
theorem Sb.row {ids : List Nat} {M : z_Mem} {i : Nat} (f : Nat → Int32) (hi : i ∈ ids) : Sb ids M (z_row M i f) := ⟨fun j hj => z_row_n M f (fun e => hj (e ▸ hi)), rfl⟩
theorem Sb.set {ids : List Nat} {M : z_Mem} {i k : Nat} (v : Int32) (hi : i ∈ ids) : Sb ids M (z_set M i k v) := Sb.row _ hi
theorem Sb.pm {ids : List Nat} {M : z_Mem} {q : Nat} (o : Int32) (L : Nat → Int32) (hi : q ∈ ids) (h13 : 13 ∈ ids) : Sb ids M (pm M q o L) := (Sb.set o hi).tr (Sb.row L h13)
theorem TK_sb {ids : List Nat} {M N : z_Mem} {T : TT} (h : TK M T) (s : Sb ids M N) (hi : ∀ i ∈ ids, i < 3 ∨ 7 < i) : TK N T := by
  have e : ∀ i, 3 ≤ i → i ≤ 7 → N.1 i = M.1 i := fun i h1 h2 => s.1 i (fun q => by have := hi i q; omega)
  exact TK_cong h (by rw [e 3 (by omega) (by omega)]) (e 4 (by omega) (by omega)) (e 5 (by omega) (by omega)) (e 6 (by omega) (by omega)) (e 7 (by omega) (by omega))
theorem PlAt_sb {ids : List Nat} {M N : z_Mem} {q : Nat} {p : PLt} (h : PlAt M q p) (s : Sb ids M N) (h1 : q ∉ ids) (h2 : q + 1 ∉ ids) : PlAt N q p := by
  unfold PlAt
  rw [s.1 q h1, s.1 (q + 1) h2]
  exact h
def pgR (o o2 : Int32) : Int32 := nI (pc 7 o2) - nI (pc 7 o)
def tgL (t : Nat) (n : Int32) : Nat → Int32 := upd (fun _ => 0) t n
def tugF (T : TT) (p : PLt) (t : Nat) (n : Int32) : PLt := ((pgF T p.2.1 p.1 (tgL t n) (T.1 + 1)).1, p.2.1, p.2.2)
/-- pulls: how many, at which thing, how much -/
abbrev UT : Type := Nat × (Nat → Nat) × (Nat → Int32)
def UK (M : z_Mem) (U : UT) : Prop := M.1 3 5 = nI U.1 ∧ U.1 ≤ 4 ∧ ∀ k, k < U.1 → M.1 8 k = nI (U.2.1 k) ∧ U.2.1 k < 6 ∧ M.1 9 k = U.2.2 k
theorem UK_sb {ids : List Nat} {M N : z_Mem} {U : UT} (h : UK M U) (s : Sb ids M N) (h3 : 3 ∉ ids) (h8 : 8 ∉ ids) (h9 : 9 ∉ ids) : UK N U := by
  unfold UK
  rw [s.1 3 h3, s.1 8 h8, s.1 9 h9]
  exact h
def dyL (U : UT) (d : Nat) : Nat → Int32 := if U.1 = 0 then fun _ => 0 else tgL (U.2.1 (d % U.1)) (U.2.2 (d % U.1))
/-- a day's open pins behind the springs, and its pings -/
def dyO (T : TT) (p : PLt) : Int32 := spF T.2.2.2.2 p.1 T.1
def dyP (T : TT) (U : UT) (p : PLt) : Int32 × (Nat → Int32) := pgF T p.2.1 (dyO T p) (dyL U p.2.2) (T.1 + 1)
def dayF (T : TT) (U : UT) (p : PLt) : PLt := ((dyP T U p).1, wnF T (dyP T U p).1 (dyP T U p).2 p.2.1 T.1, p.2.2 + 1)
theorem pm_pre {M : z_Mem} {q : Nat} (hq : q ≠ 13) (X : Nat → Int32) (o : Int32) (L : Nat → Int32) : pm (z_row M 13 X) q o L = pm M q o L := by
  unfold pm z_set
  rw [z_row_n _ _ hq, z_row_comm _ _ _ (Ne.symm hq), z_row_row]
set_option maxRecDepth 100000 in
set_option maxHeartbeats 400000 in
theorem c_X1_ping_14 {M : z_Mem} {T : TT} (hT : TK M T) (ho : sm7 (M.1 14 0)) : z_Ct mX1_ping [.ref 12, .ref 14] M (some (.int (pgR (M.1 14 0) (pgF T (M.1 15) (M.1 14 0) (M.1 13) (T.1 + 1)).1))) (pm M 14 (pgF T (M.1 15) (M.1 14 0) (M.1 13) (T.1 + 1)).1 (pgF T (M.1 15) (M.1 14 0) (M.1 13) (T.1 + 1)).2) := by
  refine z_entry (by decide +kernel) (Nat.le_of_ble_eq_true rfl) rfl ?_
  show z_Sm mX1_ping _ _ 0 [some (.ref 12), some (.ref 14), none, none, none, none] [] M
  refine z_aload_n (pc := 0) dX1_ping_0 rfl ?_
  refine z_getI (pc := 1) q_fX1_27 z_s14 rfl dX1_ping_1 ?_
  refine z_cS1 (pc := 4) (c_J6_bitCount_0f7a4 ho) (q_cX1_33 _ (by decide)) rfl dX1_ping_4 ?_
  refine z_istore_n (pc := 7) dX1_ping_7 rfl (by decide) ?_
  refine z_iconst (pc := 8) (v := 0) dX1_ping_8 (by decide) ?_
  refine z_istore_n (pc := 9) dX1_ping_9 rfl (by decide) ?_
  refine s_X1_ping_10_14 hT (o := M.1 14 0) (L := M.1 13) ?_ 0 (Nat.zero_le _) _ _ rfl (pm_self M 14).symm
  refine z_aload_n (pc := 82) dX1_ping_82 rfl ?_
  refine z_getI (pc := 83) q_fX1_27 z_s14 rfl dX1_ping_83 ?_
  refine z_cS1 (pc := 86) (c_J6_bitCount_0f7a4 (by rw [pm_q0 M (by decide)]; exact pgF_sm hT.1.2.1 ho _)) (q_cX1_33 _ (by decide)) rfl dX1_ping_86 ?_
  refine z_iload_n (pc := 89) dX1_ping_89 rfl ?_
  refine z_isub (pc := 90) dX1_ping_90 ?_
  refine z_iret (pc := 91) rfl dX1_ping_91 ?_ ?_
  · rw [pm_q0 M (by decide)]; rfl
  · rfl
set_option maxRecDepth 100000 in
set_option maxHeartbeats 400000 in
theorem s_X1_springShut_2_14 {M M2 : z_Mem} {r : Option Value} {T : TT} (hT : TK M T) (kk : z_Sm mX1_springShut r M2 46 [some (.ref 12), some (.ref 14), none] [] (z_set M 14 0 (spF T.2.2.2.2 (M.1 14 0) (T.1)))) (j : Nat) (hj : j ≤ T.1) (ij : Int32) (Mj : z_Mem) (h2 : ij = nI j) (hM : Mj = z_set M 14 0 (spF T.2.2.2.2 (M.1 14 0) j)) : z_Sm mX1_springShut r M2 2 [some (.ref 12), some (.ref 14), some (.int ij)] [] Mj := by
  have hP7 := hT.1.2.1
  subst hM
  have hP : (z_set M 14 0 (spF T.2.2.2.2 (M.1 14 0) j)).1 3 0 = nI T.1 := by rw [z_set, z_row_n _ _ (by decide)]; exact hT.1.1
  have h7 : (z_set M 14 0 (spF T.2.2.2.2 (M.1 14 0) j)).1 7 = M.1 7 := by rw [z_set, z_row_n _ _ (by decide)]
  have hq0 : (z_set M 14 0 (spF T.2.2.2.2 (M.1 14 0) j)).1 14 0 = spF T.2.2.2.2 (M.1 14 0) j := by rw [z_set, z_row_1, upd_1]
  refine z_iload_n (pc := 2) dX1_springShut_2 rfl ?_
  refine z_aload_n (pc := 3) dX1_springShut_3 rfl ?_
  refine z_getR (pc := 4) 3 q_fX1_15 z_s12 rfl dX1_springShut_4 ?_
  refine z_getI (pc := 7) q_fX1_39 z_s3 rfl dX1_springShut_7 ?_
  refine z_icmp_ge (pc := 10) (tgt := 46) dX1_springShut_10 (by decide) (fun h10 => ?_) (fun h10 => ?_)
  · have hNj : T.1 ≤ j := by
      have := z_ge h10 h2 hP (by omega) (by omega)
      omega
    obtain rfl : j = T.1 := by omega
    exact z_drop 2 kk
  · have hlt : j < T.1 := by
      have := z_lt h10 h2 hP (by omega) (by omega)
      omega
    have hk := (hT.2 j hlt).2
    refine z_aload_n (pc := 13) dX1_springShut_13 rfl ?_
    refine z_getR (pc := 14) 3 q_fX1_15 z_s12 rfl dX1_springShut_14 ?_
    refine z_getR (pc := 17) 7 q_fX1_98 z_s3 rfl dX1_springShut_17 ?_
    refine z_iload_n (pc := 20) dX1_springShut_20 rfl ?_
    refine z_iald (pc := 21) (j) z_s7 ⟨h2, by omega, by decide⟩ dX1_springShut_21 ?_
    refine z_iconst (pc := 22) (v := 3) dX1_springShut_22 (by decide) ?_
    refine z_icmp_ne (pc := 23) (tgt := 40) dX1_springShut_23 (by decide) (fun h23 => ?_) (fun h23 => ?_)
    · refine z_iinc (pc := 40) dX1_springShut_40 rfl rfl rfl (by decide) ?_
      refine z_goto (pc := 43) (tgt := 2) dX1_springShut_43 (by decide) ?_
      rw [h7, hk] at h23
      exact s_X1_springShut_2_14 hT kk (j + 1) hlt _ _ (z_n1 h2) (by rw [spF, if_neg h23])
    · refine z_aload_n (pc := 26) dX1_springShut_26 rfl ?_
      refine z_dup (pc := 27) dX1_springShut_27 rfl ?_
      refine z_getI (pc := 28) q_fX1_27 z_s14 rfl dX1_springShut_28 ?_
      refine z_iconst (pc := 31) (v := 1) dX1_springShut_31 (by decide) ?_
      refine z_iload_n (pc := 32) dX1_springShut_32 rfl ?_
      refine z_ishl (pc := 33) dX1_springShut_33 ?_
      refine z_iconst (pc := 34) (v := (-1)) dX1_springShut_34 (by decide) ?_
      refine z_ixor (pc := 35) dX1_springShut_35 ?_
      refine z_iand (pc := 36) dX1_springShut_36 ?_
      refine z_putI (pc := 37) q_fX1_27 q_p2_0 z_s14 rfl dX1_springShut_37 ?_
      refine z_iinc (pc := 40) dX1_springShut_40 rfl rfl rfl (by decide) ?_
      refine z_goto (pc := 43) (tgt := 2) dX1_springShut_43 (by decide) ?_
      rw [h7, hk] at h23
      have h23 : T.2.2.2.2 j = 3 := by simpa using h23
      exact s_X1_springShut_2_14 hT kk (j + 1) hlt _ _ (z_n1 h2) (by rw [hq0, h2, spF, if_pos h23, z_set, z_set, z_row_1, upd_upd, z_row_row]; rfl)
termination_by T.1 - j
decreasing_by all_goals omega
set_option maxRecDepth 100000 in
set_option maxHeartbeats 400000 in
theorem c_X1_springShut_14 {M : z_Mem} {T : TT} (hT : TK M T) : z_Ct mX1_springShut [.ref 12, .ref 14] M none (z_set M 14 0 (spF T.2.2.2.2 (M.1 14 0) T.1)) := by
  refine z_entry (by decide +kernel) (Nat.le_of_ble_eq_true rfl) rfl ?_
  show z_Sm mX1_springShut _ _ 0 [some (.ref 12), some (.ref 14), none] [] M
  refine z_iconst (pc := 0) (v := 0) dX1_springShut_0 (by decide) ?_
  refine z_istore_n (pc := 1) dX1_springShut_1 rfl (by decide) ?_
  refine s_X1_springShut_2_14 hT ?_ 0 (Nat.zero_le _) _ _ rfl (by rw [spF, z_set_self])
  refine z_vret (pc := 46) rfl dX1_springShut_46 ?_
  rfl
set_option maxRecDepth 100000 in
set_option maxHeartbeats 400000 in
theorem s_X1_wearDown_2_14 {M M2 : z_Mem} {r : Option Value} {T : TT} (hT : TK M T) (kk : z_Sm mX1_wearDown r M2 59 [some (.ref 12), some (.ref 14), none] [] (z_row M 15 (wnF T (M.1 14 0) (M.1 13) (M.1 15) (T.1)))) (j : Nat) (hj : j ≤ T.1) (ij : Int32) (Mj : z_Mem) (h2 : ij = nI j) (hM : Mj = z_row M 15 (wnF T (M.1 14 0) (M.1 13) (M.1 15) j)) : z_Sm mX1_wearDown r M2 2 [some (.ref 12), some (.ref 14), some (.int ij)] [] Mj := by
  have hP7 := hT.1.2.1
  subst hM
  have hn : ∀ i, i ≠ 15 → (z_row M 15 (wnF T (M.1 14 0) (M.1 13) (M.1 15) j)).1 i = M.1 i := fun i hi => z_row_n _ _ hi
  have hP : (z_row M 15 (wnF T (M.1 14 0) (M.1 13) (M.1 15) j)).1 3 0 = nI T.1 := by rw [hn 3 (by decide)]; exact hT.1.1
  have hT2 : TK (z_row M 15 (wnF T (M.1 14 0) (M.1 13) (M.1 15) j)) T := TK_cong hT (by rw [hn 3 (by decide)]) (hn 4 (by decide)) (hn 5 (by decide)) (hn 6 (by decide)) (hn 7 (by decide))
  refine z_iload_n (pc := 2) dX1_wearDown_2 rfl ?_
  refine z_aload_n (pc := 3) dX1_wearDown_3 rfl ?_
  refine z_getR (pc := 4) 3 q_fX1_15 z_s12 rfl dX1_wearDown_4 ?_
  refine z_getI (pc := 7) q_fX1_39 z_s3 rfl dX1_wearDown_7 ?_
  refine z_icmp_ge (pc := 10) (tgt := 59) dX1_wearDown_10 (by decide) (fun h10 => ?_) (fun h10 => ?_)
  · have hNj : T.1 ≤ j := by
      have := z_ge h10 h2 hP (by omega) (by omega)
      omega
    obtain rfl : j = T.1 := by omega
    exact z_drop 2 kk
  · have hlt : j < T.1 := by
      have := z_lt h10 h2 hP (by omega) (by omega)
      omega
    have hk := (hT.2 j hlt).2
    refine z_aload_n (pc := 13) dX1_wearDown_13 rfl ?_
    refine z_getR (pc := 14) 3 q_fX1_15 z_s12 rfl dX1_wearDown_14 ?_
    refine z_getR (pc := 17) 7 q_fX1_98 z_s3 rfl dX1_wearDown_17 ?_
    refine z_iload_n (pc := 20) dX1_wearDown_20 rfl ?_
    refine z_iald (pc := 21) (j) z_s7 ⟨h2, by omega, by decide⟩ dX1_wearDown_21 ?_
    refine z_iconst (pc := 22) (v := 2) dX1_wearDown_22 (by decide) ?_
    refine z_icmp_ne (pc := 23) (tgt := 53) dX1_wearDown_23 (by decide) (fun h23 => ?_) (fun h23 => ?_)
    · refine z_iinc (pc := 53) dX1_wearDown_53 rfl rfl rfl (by decide) ?_
      refine z_goto (pc := 56) (tgt := 2) dX1_wearDown_56 (by decide) ?_
      rw [hn 7 (by decide), hk] at h23
      exact s_X1_wearDown_2_14 hT kk (j + 1) hlt _ _ (z_n1 h2) (by rw [wnF_no (fun q => h23 q.1)])
    · refine z_aload_n (pc := 26) dX1_wearDown_26 rfl ?_
      refine z_iload_n (pc := 27) dX1_wearDown_27 rfl ?_
      refine z_cV1 (pc := 28) (c_X2_isOpen_14 h2 (by omega)) (q_cX1_50 _ (by decide)) z_s14 rfl rfl dX1_wearDown_28 ?_
      refine z_if_ne (pc := 31) (tgt := 53) dX1_wearDown_31 (by decide) (fun h31 => ?_) (fun h31 => ?_)
      · refine z_iinc (pc := 53) dX1_wearDown_53 rfl rfl rfl (by decide) ?_
        refine z_goto (pc := 56) (tgt := 2) dX1_wearDown_56 (by decide) ?_
        rw [hn 14 (by decide)] at h31
        have hb : bt (M.1 14 0) j = true := by
          cases q : bt (M.1 14 0) j
          · rw [q] at h31; exact absurd rfl h31
          · rfl
        exact s_X1_wearDown_2_14 hT kk (j + 1) hlt _ _ (z_n1 h2) (by rw [wnF_no (fun q => by rw [hb] at q; exact absurd q.2.1 (by decide))])
      · refine z_aload_n (pc := 34) dX1_wearDown_34 rfl ?_
        refine z_iload_n (pc := 35) dX1_wearDown_35 rfl ?_
        refine z_cV1 (pc := 36) (c_X1_loadOf hT2 h2 hlt) (q_cX1_54 _ (by decide)) z_s12 rfl rfl dX1_wearDown_36 ?_
        refine z_iconst (pc := 39) (v := 1) dX1_wearDown_39 (by decide) ?_
        refine z_icmp_lt (pc := 40) (tgt := 53) dX1_wearDown_40 (by decide) (fun h40 => ?_) (fun h40 => ?_)
        · refine z_iinc (pc := 53) dX1_wearDown_53 rfl rfl rfl (by decide) ?_
          refine z_goto (pc := 56) (tgt := 2) dX1_wearDown_56 (by decide) ?_
          rw [hn 13 (by decide)] at h40
          exact s_X1_wearDown_2_14 hT kk (j + 1) hlt _ _ (z_n1 h2) (by rw [wnF_no (fun q => (Int32.not_lt.mpr q.2.2) h40)])
        · refine z_aload_n (pc := 43) dX1_wearDown_43 rfl ?_
          refine z_getR (pc := 44) 15 q_fX1_57 z_s14 rfl dX1_wearDown_44 ?_
          refine z_iload_n (pc := 47) dX1_wearDown_47 rfl ?_
          refine z_dup2 (pc := 48) dX1_wearDown_48 rfl rfl ?_
          refine z_iald (pc := 49) (j) z_s15 ⟨h2, by omega, by decide⟩ dX1_wearDown_49 ?_
          refine z_iconst (pc := 50) (v := 1) dX1_wearDown_50 (by decide) ?_
          refine z_iadd (pc := 51) dX1_wearDown_51 ?_
          refine z_iast (pc := 52) (j) z_s15 ⟨h2, by omega, by decide⟩ dX1_wearDown_52 ?_
          refine z_iinc (pc := 53) dX1_wearDown_53 rfl rfl rfl (by decide) ?_
          refine z_goto (pc := 56) (tgt := 2) dX1_wearDown_56 (by decide) ?_
          rw [hn 13 (by decide)] at h40
          rw [hn 7 (by decide), hk] at h23
          rw [hn 14 (by decide)] at h31
          have hb : bt (M.1 14 0) j = false := by
            cases q : bt (M.1 14 0) j
            · rfl
            · rw [q] at h31; exact absurd h31 (by decide)
          have h23 : T.2.2.2.2 j = 2 := by simpa using h23
          exact s_X1_wearDown_2_14 hT kk (j + 1) hlt _ _ (z_n1 h2) (by rw [← wnF_yes ⟨h23, hb, Int32.not_lt.mp h40⟩, z_set, z_row_1, z_row_row])
termination_by T.1 - j
decreasing_by all_goals omega
set_option maxRecDepth 100000 in
set_option maxHeartbeats 400000 in
theorem c_X1_wearDown_14 {M : z_Mem} {T : TT} (hT : TK M T) : z_Ct mX1_wearDown [.ref 12, .ref 14] M none (z_row M 15 (wnF T (M.1 14 0) (M.1 13) (M.1 15) T.1)) := by
  refine z_entry (by decide +kernel) (Nat.le_of_ble_eq_true rfl) rfl ?_
  show z_Sm mX1_wearDown _ _ 0 [some (.ref 12), some (.ref 14), none] [] M
  refine z_iconst (pc := 0) (v := 0) dX1_wearDown_0 (by decide) ?_
  refine z_istore_n (pc := 1) dX1_wearDown_1 rfl (by decide) ?_
  refine s_X1_wearDown_2_14 hT ?_ 0 (Nat.zero_le _) _ _ rfl (by rw [wnF_0, z_row_same])
  refine z_vret (pc := 59) rfl dX1_wearDown_59 ?_
  rfl
set_option maxRecDepth 100000 in
set_option maxHeartbeats 400000 in
theorem c_X1_ping_16 {M : z_Mem} {T : TT} (hT : TK M T) (ho : sm7 (M.1 16 0)) : z_Ct mX1_ping [.ref 12, .ref 16] M (some (.int (pgR (M.1 16 0) (pgF T (M.1 17) (M.1 16 0) (M.1 13) (T.1 + 1)).1))) (pm M 16 (pgF T (M.1 17) (M.1 16 0) (M.1 13) (T.1 + 1)).1 (pgF T (M.1 17) (M.1 16 0) (M.1 13) (T.1 + 1)).2) := by
  refine z_entry (by decide +kernel) (Nat.le_of_ble_eq_true rfl) rfl ?_
  show z_Sm mX1_ping _ _ 0 [some (.ref 12), some (.ref 16), none, none, none, none] [] M
  refine z_aload_n (pc := 0) dX1_ping_0 rfl ?_
  refine z_getI (pc := 1) q_fX1_27 z_s16 rfl dX1_ping_1 ?_
  refine z_cS1 (pc := 4) (c_J6_bitCount_0f7a4 ho) (q_cX1_33 _ (by decide)) rfl dX1_ping_4 ?_
  refine z_istore_n (pc := 7) dX1_ping_7 rfl (by decide) ?_
  refine z_iconst (pc := 8) (v := 0) dX1_ping_8 (by decide) ?_
  refine z_istore_n (pc := 9) dX1_ping_9 rfl (by decide) ?_
  refine s_X1_ping_10_16 hT (o := M.1 16 0) (L := M.1 13) ?_ 0 (Nat.zero_le _) _ _ rfl (pm_self M 16).symm
  refine z_aload_n (pc := 82) dX1_ping_82 rfl ?_
  refine z_getI (pc := 83) q_fX1_27 z_s16 rfl dX1_ping_83 ?_
  refine z_cS1 (pc := 86) (c_J6_bitCount_0f7a4 (by rw [pm_q0 M (by decide)]; exact pgF_sm hT.1.2.1 ho _)) (q_cX1_33 _ (by decide)) rfl dX1_ping_86 ?_
  refine z_iload_n (pc := 89) dX1_ping_89 rfl ?_
  refine z_isub (pc := 90) dX1_ping_90 ?_
  refine z_iret (pc := 91) rfl dX1_ping_91 ?_ ?_
  · rw [pm_q0 M (by decide)]; rfl
  · rfl
set_option maxRecDepth 100000 in
set_option maxHeartbeats 400000 in
theorem s_X1_springShut_2_16 {M M2 : z_Mem} {r : Option Value} {T : TT} (hT : TK M T) (kk : z_Sm mX1_springShut r M2 46 [some (.ref 12), some (.ref 16), none] [] (z_set M 16 0 (spF T.2.2.2.2 (M.1 16 0) (T.1)))) (j : Nat) (hj : j ≤ T.1) (ij : Int32) (Mj : z_Mem) (h2 : ij = nI j) (hM : Mj = z_set M 16 0 (spF T.2.2.2.2 (M.1 16 0) j)) : z_Sm mX1_springShut r M2 2 [some (.ref 12), some (.ref 16), some (.int ij)] [] Mj := by
  have hP7 := hT.1.2.1
  subst hM
  have hP : (z_set M 16 0 (spF T.2.2.2.2 (M.1 16 0) j)).1 3 0 = nI T.1 := by rw [z_set, z_row_n _ _ (by decide)]; exact hT.1.1
  have h7 : (z_set M 16 0 (spF T.2.2.2.2 (M.1 16 0) j)).1 7 = M.1 7 := by rw [z_set, z_row_n _ _ (by decide)]
  have hq0 : (z_set M 16 0 (spF T.2.2.2.2 (M.1 16 0) j)).1 16 0 = spF T.2.2.2.2 (M.1 16 0) j := by rw [z_set, z_row_1, upd_1]
  refine z_iload_n (pc := 2) dX1_springShut_2 rfl ?_
  refine z_aload_n (pc := 3) dX1_springShut_3 rfl ?_
  refine z_getR (pc := 4) 3 q_fX1_15 z_s12 rfl dX1_springShut_4 ?_
  refine z_getI (pc := 7) q_fX1_39 z_s3 rfl dX1_springShut_7 ?_
  refine z_icmp_ge (pc := 10) (tgt := 46) dX1_springShut_10 (by decide) (fun h10 => ?_) (fun h10 => ?_)
  · have hNj : T.1 ≤ j := by
      have := z_ge h10 h2 hP (by omega) (by omega)
      omega
    obtain rfl : j = T.1 := by omega
    exact z_drop 2 kk
  · have hlt : j < T.1 := by
      have := z_lt h10 h2 hP (by omega) (by omega)
      omega
    have hk := (hT.2 j hlt).2
    refine z_aload_n (pc := 13) dX1_springShut_13 rfl ?_
    refine z_getR (pc := 14) 3 q_fX1_15 z_s12 rfl dX1_springShut_14 ?_
    refine z_getR (pc := 17) 7 q_fX1_98 z_s3 rfl dX1_springShut_17 ?_
    refine z_iload_n (pc := 20) dX1_springShut_20 rfl ?_
    refine z_iald (pc := 21) (j) z_s7 ⟨h2, by omega, by decide⟩ dX1_springShut_21 ?_
    refine z_iconst (pc := 22) (v := 3) dX1_springShut_22 (by decide) ?_
    refine z_icmp_ne (pc := 23) (tgt := 40) dX1_springShut_23 (by decide) (fun h23 => ?_) (fun h23 => ?_)
    · refine z_iinc (pc := 40) dX1_springShut_40 rfl rfl rfl (by decide) ?_
      refine z_goto (pc := 43) (tgt := 2) dX1_springShut_43 (by decide) ?_
      rw [h7, hk] at h23
      exact s_X1_springShut_2_16 hT kk (j + 1) hlt _ _ (z_n1 h2) (by rw [spF, if_neg h23])
    · refine z_aload_n (pc := 26) dX1_springShut_26 rfl ?_
      refine z_dup (pc := 27) dX1_springShut_27 rfl ?_
      refine z_getI (pc := 28) q_fX1_27 z_s16 rfl dX1_springShut_28 ?_
      refine z_iconst (pc := 31) (v := 1) dX1_springShut_31 (by decide) ?_
      refine z_iload_n (pc := 32) dX1_springShut_32 rfl ?_
      refine z_ishl (pc := 33) dX1_springShut_33 ?_
      refine z_iconst (pc := 34) (v := (-1)) dX1_springShut_34 (by decide) ?_
      refine z_ixor (pc := 35) dX1_springShut_35 ?_
      refine z_iand (pc := 36) dX1_springShut_36 ?_
      refine z_putI (pc := 37) q_fX1_27 q_p2_0 z_s16 rfl dX1_springShut_37 ?_
      refine z_iinc (pc := 40) dX1_springShut_40 rfl rfl rfl (by decide) ?_
      refine z_goto (pc := 43) (tgt := 2) dX1_springShut_43 (by decide) ?_
      rw [h7, hk] at h23
      have h23 : T.2.2.2.2 j = 3 := by simpa using h23
      exact s_X1_springShut_2_16 hT kk (j + 1) hlt _ _ (z_n1 h2) (by rw [hq0, h2, spF, if_pos h23, z_set, z_set, z_row_1, upd_upd, z_row_row]; rfl)
termination_by T.1 - j
decreasing_by all_goals omega
set_option maxRecDepth 100000 in
set_option maxHeartbeats 400000 in
theorem c_X1_springShut_16 {M : z_Mem} {T : TT} (hT : TK M T) : z_Ct mX1_springShut [.ref 12, .ref 16] M none (z_set M 16 0 (spF T.2.2.2.2 (M.1 16 0) T.1)) := by
  refine z_entry (by decide +kernel) (Nat.le_of_ble_eq_true rfl) rfl ?_
  show z_Sm mX1_springShut _ _ 0 [some (.ref 12), some (.ref 16), none] [] M
  refine z_iconst (pc := 0) (v := 0) dX1_springShut_0 (by decide) ?_
  refine z_istore_n (pc := 1) dX1_springShut_1 rfl (by decide) ?_
  refine s_X1_springShut_2_16 hT ?_ 0 (Nat.zero_le _) _ _ rfl (by rw [spF, z_set_self])
  refine z_vret (pc := 46) rfl dX1_springShut_46 ?_
  rfl
set_option maxRecDepth 100000 in
set_option maxHeartbeats 400000 in
theorem s_X1_wearDown_2_16 {M M2 : z_Mem} {r : Option Value} {T : TT} (hT : TK M T) (kk : z_Sm mX1_wearDown r M2 59 [some (.ref 12), some (.ref 16), none] [] (z_row M 17 (wnF T (M.1 16 0) (M.1 13) (M.1 17) (T.1)))) (j : Nat) (hj : j ≤ T.1) (ij : Int32) (Mj : z_Mem) (h2 : ij = nI j) (hM : Mj = z_row M 17 (wnF T (M.1 16 0) (M.1 13) (M.1 17) j)) : z_Sm mX1_wearDown r M2 2 [some (.ref 12), some (.ref 16), some (.int ij)] [] Mj := by
  have hP7 := hT.1.2.1
  subst hM
  have hn : ∀ i, i ≠ 17 → (z_row M 17 (wnF T (M.1 16 0) (M.1 13) (M.1 17) j)).1 i = M.1 i := fun i hi => z_row_n _ _ hi
  have hP : (z_row M 17 (wnF T (M.1 16 0) (M.1 13) (M.1 17) j)).1 3 0 = nI T.1 := by rw [hn 3 (by decide)]; exact hT.1.1
  have hT2 : TK (z_row M 17 (wnF T (M.1 16 0) (M.1 13) (M.1 17) j)) T := TK_cong hT (by rw [hn 3 (by decide)]) (hn 4 (by decide)) (hn 5 (by decide)) (hn 6 (by decide)) (hn 7 (by decide))
  refine z_iload_n (pc := 2) dX1_wearDown_2 rfl ?_
  refine z_aload_n (pc := 3) dX1_wearDown_3 rfl ?_
  refine z_getR (pc := 4) 3 q_fX1_15 z_s12 rfl dX1_wearDown_4 ?_
  refine z_getI (pc := 7) q_fX1_39 z_s3 rfl dX1_wearDown_7 ?_
  refine z_icmp_ge (pc := 10) (tgt := 59) dX1_wearDown_10 (by decide) (fun h10 => ?_) (fun h10 => ?_)
  · have hNj : T.1 ≤ j := by
      have := z_ge h10 h2 hP (by omega) (by omega)
      omega
    obtain rfl : j = T.1 := by omega
    exact z_drop 2 kk
  · have hlt : j < T.1 := by
      have := z_lt h10 h2 hP (by omega) (by omega)
      omega
    have hk := (hT.2 j hlt).2
    refine z_aload_n (pc := 13) dX1_wearDown_13 rfl ?_
    refine z_getR (pc := 14) 3 q_fX1_15 z_s12 rfl dX1_wearDown_14 ?_
    refine z_getR (pc := 17) 7 q_fX1_98 z_s3 rfl dX1_wearDown_17 ?_
    refine z_iload_n (pc := 20) dX1_wearDown_20 rfl ?_
    refine z_iald (pc := 21) (j) z_s7 ⟨h2, by omega, by decide⟩ dX1_wearDown_21 ?_
    refine z_iconst (pc := 22) (v := 2) dX1_wearDown_22 (by decide) ?_
    refine z_icmp_ne (pc := 23) (tgt := 53) dX1_wearDown_23 (by decide) (fun h23 => ?_) (fun h23 => ?_)
    · refine z_iinc (pc := 53) dX1_wearDown_53 rfl rfl rfl (by decide) ?_
      refine z_goto (pc := 56) (tgt := 2) dX1_wearDown_56 (by decide) ?_
      rw [hn 7 (by decide), hk] at h23
      exact s_X1_wearDown_2_16 hT kk (j + 1) hlt _ _ (z_n1 h2) (by rw [wnF_no (fun q => h23 q.1)])
    · refine z_aload_n (pc := 26) dX1_wearDown_26 rfl ?_
      refine z_iload_n (pc := 27) dX1_wearDown_27 rfl ?_
      refine z_cV1 (pc := 28) (c_X2_isOpen_16 h2 (by omega)) (q_cX1_50 _ (by decide)) z_s16 rfl rfl dX1_wearDown_28 ?_
      refine z_if_ne (pc := 31) (tgt := 53) dX1_wearDown_31 (by decide) (fun h31 => ?_) (fun h31 => ?_)
      · refine z_iinc (pc := 53) dX1_wearDown_53 rfl rfl rfl (by decide) ?_
        refine z_goto (pc := 56) (tgt := 2) dX1_wearDown_56 (by decide) ?_
        rw [hn 16 (by decide)] at h31
        have hb : bt (M.1 16 0) j = true := by
          cases q : bt (M.1 16 0) j
          · rw [q] at h31; exact absurd rfl h31
          · rfl
        exact s_X1_wearDown_2_16 hT kk (j + 1) hlt _ _ (z_n1 h2) (by rw [wnF_no (fun q => by rw [hb] at q; exact absurd q.2.1 (by decide))])
      · refine z_aload_n (pc := 34) dX1_wearDown_34 rfl ?_
        refine z_iload_n (pc := 35) dX1_wearDown_35 rfl ?_
        refine z_cV1 (pc := 36) (c_X1_loadOf hT2 h2 hlt) (q_cX1_54 _ (by decide)) z_s12 rfl rfl dX1_wearDown_36 ?_
        refine z_iconst (pc := 39) (v := 1) dX1_wearDown_39 (by decide) ?_
        refine z_icmp_lt (pc := 40) (tgt := 53) dX1_wearDown_40 (by decide) (fun h40 => ?_) (fun h40 => ?_)
        · refine z_iinc (pc := 53) dX1_wearDown_53 rfl rfl rfl (by decide) ?_
          refine z_goto (pc := 56) (tgt := 2) dX1_wearDown_56 (by decide) ?_
          rw [hn 13 (by decide)] at h40
          exact s_X1_wearDown_2_16 hT kk (j + 1) hlt _ _ (z_n1 h2) (by rw [wnF_no (fun q => (Int32.not_lt.mpr q.2.2) h40)])
        · refine z_aload_n (pc := 43) dX1_wearDown_43 rfl ?_
          refine z_getR (pc := 44) 17 q_fX1_57 z_s16 rfl dX1_wearDown_44 ?_
          refine z_iload_n (pc := 47) dX1_wearDown_47 rfl ?_
          refine z_dup2 (pc := 48) dX1_wearDown_48 rfl rfl ?_
          refine z_iald (pc := 49) (j) z_s17 ⟨h2, by omega, by decide⟩ dX1_wearDown_49 ?_
          refine z_iconst (pc := 50) (v := 1) dX1_wearDown_50 (by decide) ?_
          refine z_iadd (pc := 51) dX1_wearDown_51 ?_
          refine z_iast (pc := 52) (j) z_s17 ⟨h2, by omega, by decide⟩ dX1_wearDown_52 ?_
          refine z_iinc (pc := 53) dX1_wearDown_53 rfl rfl rfl (by decide) ?_
          refine z_goto (pc := 56) (tgt := 2) dX1_wearDown_56 (by decide) ?_
          rw [hn 13 (by decide)] at h40
          rw [hn 7 (by decide), hk] at h23
          rw [hn 16 (by decide)] at h31
          have hb : bt (M.1 16 0) j = false := by
            cases q : bt (M.1 16 0) j
            · rfl
            · rw [q] at h31; exact absurd h31 (by decide)
          have h23 : T.2.2.2.2 j = 2 := by simpa using h23
          exact s_X1_wearDown_2_16 hT kk (j + 1) hlt _ _ (z_n1 h2) (by rw [← wnF_yes ⟨h23, hb, Int32.not_lt.mp h40⟩, z_set, z_row_1, z_row_row])
termination_by T.1 - j
decreasing_by all_goals omega
set_option maxRecDepth 100000 in
set_option maxHeartbeats 400000 in
theorem c_X1_wearDown_16 {M : z_Mem} {T : TT} (hT : TK M T) : z_Ct mX1_wearDown [.ref 12, .ref 16] M none (z_row M 17 (wnF T (M.1 16 0) (M.1 13) (M.1 17) T.1)) := by
  refine z_entry (by decide +kernel) (Nat.le_of_ble_eq_true rfl) rfl ?_
  show z_Sm mX1_wearDown _ _ 0 [some (.ref 12), some (.ref 16), none] [] M
  refine z_iconst (pc := 0) (v := 0) dX1_wearDown_0 (by decide) ?_
  refine z_istore_n (pc := 1) dX1_wearDown_1 rfl (by decide) ?_
  refine s_X1_wearDown_2_16 hT ?_ 0 (Nat.zero_le _) _ _ rfl (by rw [wnF_0, z_row_same])
  refine z_vret (pc := 59) rfl dX1_wearDown_59 ?_
  rfl
end
section
def dyM (T : TT) (q : Nat) (M : z_Mem) : z_Mem := z_set (z_row (pm M q (pgF T (M.1 (q + 1)) (M.1 q 0) (M.1 13) (T.1 + 1)).1 (pgF T (M.1 (q + 1)) (M.1 q 0) (M.1 13) (T.1 + 1)).2) (q + 1) (wnF T (pgF T (M.1 (q + 1)) (M.1 q 0) (M.1 13) (T.1 + 1)).1 (pgF T (M.1 (q + 1)) (M.1 q 0) (M.1 13) (T.1 + 1)).2 (M.1 (q + 1)) T.1)) q 2 (M.1 q 2 + 1)
theorem dyM_ok {T : TT} {U : UT} {q : Nat} {M : z_Mem} {p : PLt} (hE : TE T) (hP : T.1 ≤ 7) (hq : 13 < q) (h0 : M.1 q 0 = dyO T p) (hw : ∀ k, k < 7 → M.1 (q + 1) k = p.2.1 k) (hL : ∀ k, k < 6 → M.1 13 k = dyL U p.2.2 k) (hd : M.1 q 2 = nI p.2.2) : PlAt (dyM T q M) q (dayF T U p) ∧ Sb [13, q, q + 1] M (dyM T q M) ∧ (pgF T (M.1 (q + 1)) (M.1 q 0) (M.1 13) (T.1 + 1)).1 = (dyP T U p).1 := by
  have hc := pgF_cong (o := M.1 q 0) hE (w := M.1 (q + 1)) (v := p.2.1) (L := M.1 13) (K := dyL U p.2.2) (fun k hk => hw k (by omega)) hL (T.1 + 1)
  rw [h0] at hc
  have e1 : (pgF T (M.1 (q + 1)) (M.1 q 0) (M.1 13) (T.1 + 1)).1 = (dyP T U p).1 := by rw [h0]; exact hc.1
  refine ⟨⟨?_, fun k hk => ?_, ?_⟩, ?_, e1⟩
  · show (dyM T q M).1 q 0 = (dyP T U p).1
    unfold dyM
    rw [z_set, z_row_1, upd_n _ _ (by decide), z_row_n _ _ (by omega), pm_q0 M (by omega)]
    exact e1
  · show (dyM T q M).1 (q + 1) k = wnF T (dyP T U p).1 (dyP T U p).2 p.2.1 T.1 k
    unfold dyM
    rw [z_set, z_row_n _ _ (by omega), z_row_1, e1]
    rw [h0]
    exact wnF_cong hE hw hc.2 (Nat.le_refl _) k hk
  · show (dyM T q M).1 q 2 = nI (p.2.2 + 1)
    unfold dyM
    rw [z_set, z_row_1, upd_1, hd]
    exact (nI_succ _).symm
  · unfold dyM
    exact ((Sb.pm _ _ (by simp) (by simp)).tr (Sb.row _ (by simp))).tr (Sb.set _ (by simp))
set_option maxRecDepth 100000 in
set_option maxHeartbeats 400000 in
theorem e_X1_pullAt_14 {M : z_Mem} {T : TT} (hT : TK M T) (ho : sm7 (M.1 14 0)) {x n : Int32} {t : Nat} (hx : x = nI t) (ht : t < 6) : z_Ct mX1_pullAt [.ref 12, .ref 14, .int x, .int n] M (some (.int (pgR (M.1 14 0) (pgF T (M.1 15) (M.1 14 0) (upd (cpF 6 (fun _ => 0) (M.1 13)) t (cpF 6 (fun _ => 0) (M.1 13) t + n)) (T.1 + 1)).1))) (pm M 14 (pgF T (M.1 15) (M.1 14 0) (upd (cpF 6 (fun _ => 0) (M.1 13)) t (cpF 6 (fun _ => 0) (M.1 13) t + n)) (T.1 + 1)).1 (pgF T (M.1 15) (M.1 14 0) (upd (cpF 6 (fun _ => 0) (M.1 13)) t (cpF 6 (fun _ => 0) (M.1 13) t + n)) (T.1 + 1)).2) := by
  refine z_entry (by decide +kernel) (Nat.le_of_ble_eq_true rfl) rfl ?_
  show z_Sm mX1_pullAt _ _ 0 [some (.ref 12), some (.ref 14), some (.int x), some (.int n)] [] M
  refine z_aload_n (pc := 0) dX1_pullAt_0 rfl ?_
  refine z_cV0v (pc := 1) c_X1_clear (q_cX1_64 _ (by decide)) z_s12 rfl rfl dX1_pullAt_1 ?_
  refine z_aload_n (pc := 4) dX1_pullAt_4 rfl ?_
  refine z_iload_n (pc := 5) dX1_pullAt_5 rfl ?_
  refine z_iload_n (pc := 6) dX1_pullAt_6 rfl ?_
  refine z_cV2v (pc := 7) (c_X1_burden hx ht) (q_cX1_67 _ (by decide)) z_s12 rfl rfl dX1_pullAt_7 ?_
  refine z_aload_n (pc := 10) dX1_pullAt_10 rfl ?_
  refine z_aload_n (pc := 11) dX1_pullAt_11 rfl ?_
  refine z_cV1 (pc := 12) (c_X1_ping_14 (T := T) (TK_cong hT (by simp [z_row]) (by simp [z_row]) (by simp [z_row]) (by simp [z_row]) (by simp [z_row])) (by simp only [z_row_row, z_row_1]; rw [z_row_n _ _ (by decide)]; exact ho)) (q_cX1_71 _ (by decide)) z_s12 rfl rfl dX1_pullAt_12 ?_
  refine z_iret (pc := 15) rfl dX1_pullAt_15 ?_ ?_
  · simp only [z_row_row, z_row_1]
    rw [z_row_n _ _ (by decide), z_row_n _ _ (by decide)]
  · simp only [z_row_row, z_row_1]
    rw [z_row_n _ _ (by decide), z_row_n _ _ (by decide), pm_pre (by decide)]
set_option maxRecDepth 100000 in
set_option maxHeartbeats 400000 in
theorem c_X1_pullAt_14 {M : z_Mem} {T : TT} (hT : TK M T) {p : PLt} (hp : PlAt M 14 p) (ho : sm7 p.1) {x n : Int32} {t : Nat} (hx : x = nI t) (ht : t < 6) : ∃ M1, z_Ct mX1_pullAt [.ref 12, .ref 14, .int x, .int n] M (some (.int (pgR p.1 (tugF T p t n).1))) M1 ∧ PlAt M1 14 (tugF T p t n) ∧ Sb [13, 14, 15] M M1 := by
  obtain ⟨h0, hw, hd⟩ := hp
  have hc := pgF_cong (o := M.1 14 0) hT.te (w := M.1 15) (v := p.2.1) (L := upd (cpF 6 (fun _ => 0) (M.1 13)) t (cpF 6 (fun _ => 0) (M.1 13) t + n)) (K := tgL t n) (fun k hk => hw k (by have := hT.1.2.1; omega)) (fun k hk => by
    unfold tgL upd cpF
    split
    · simp
    · rfl) (T.1 + 1)
  have e := e_X1_pullAt_14 hT (h0 ▸ ho) (n := n) hx ht
  have e1 := hc.1
  rw [h0] at e e1
  refine ⟨_, e1 ▸ e, ⟨?_, fun k hk => ?_, ?_⟩, Sb.pm _ _ (by simp) (by simp)⟩
  · rw [pm_q0 M (by decide)]; rfl
  · rw [pm_n M (by decide) (by decide)]; exact hw k hk
  · rw [pm_q M (by decide), upd_n _ _ (by decide)]; exact hd
set_option maxRecDepth 100000 in
set_option maxHeartbeats 400000 in
theorem s_X1_passDay_56_14a {M : z_Mem} {T : TT} (hT : TK M T) (ho : sm7 (M.1 14 0)) : z_Sm mX1_passDay (some (.int (pgR (M.1 14 0) (pgF T (M.1 15) (M.1 14 0) (M.1 13) (T.1 + 1)).1))) (dyM T 14 M) 56 [some (.ref 12), some (.ref 14), none] [] M := by
  have hT2 : TK (pm M 14 (pgF T (M.1 15) (M.1 14 0) (M.1 13) (T.1 + 1)).1 (pgF T (M.1 15) (M.1 14 0) (M.1 13) (T.1 + 1)).2) T := TK_pm hT (by decide) _ _
  refine z_aload_n (pc := 56) dX1_passDay_56 rfl ?_
  refine z_aload_n (pc := 57) dX1_passDay_57 rfl ?_
  refine z_cV1 (pc := 58) (c_X1_ping_14 hT ho) (q_cX1_71 _ (by decide)) z_s12 rfl rfl dX1_passDay_58 ?_
  refine z_istore_n (pc := 61) dX1_passDay_61 rfl (by decide) ?_
  refine z_aload_n (pc := 62) dX1_passDay_62 rfl ?_
  refine z_aload_n (pc := 63) dX1_passDay_63 rfl ?_
  refine z_cV1v (pc := 64) (c_X1_wearDown_14 hT2) (q_cX1_95 _ (by decide)) z_s12 rfl rfl dX1_passDay_64 ?_
  refine z_aload_n (pc := 67) dX1_passDay_67 rfl ?_
  refine z_dup (pc := 68) dX1_passDay_68 rfl ?_
  refine z_getI (pc := 69) q_fX1_81 z_s14 rfl dX1_passDay_69 ?_
  refine z_iconst (pc := 72) (v := 1) dX1_passDay_72 (by decide) ?_
  refine z_iadd (pc := 73) dX1_passDay_73 ?_
  refine z_putI (pc := 74) q_fX1_81 q_p2_2 z_s14 rfl dX1_passDay_74 ?_
  refine z_iload_n (pc := 77) dX1_passDay_77 rfl ?_
  refine z_iret (pc := 78) rfl dX1_passDay_78 ?_ ?_
  · rfl
  · rw [z_row_n _ _ (by decide), pm_q0 M (by decide), pm_13, pm_q M (by decide), upd_n _ _ (by decide), pm_n M (by decide) (by decide)]; rfl
set_option maxRecDepth 100000 in
set_option maxHeartbeats 400000 in
theorem s_X1_passDay_56_14b {M : z_Mem} {T : TT} (hT : TK M T) (ho : sm7 (M.1 14 0)) {z : Int32} : z_Sm mX1_passDay (some (.int (pgR (M.1 14 0) (pgF T (M.1 15) (M.1 14 0) (M.1 13) (T.1 + 1)).1))) (dyM T 14 M) 56 [some (.ref 12), some (.ref 14), some (.int z)] [] M := by
  have hT2 : TK (pm M 14 (pgF T (M.1 15) (M.1 14 0) (M.1 13) (T.1 + 1)).1 (pgF T (M.1 15) (M.1 14 0) (M.1 13) (T.1 + 1)).2) T := TK_pm hT (by decide) _ _
  refine z_aload_n (pc := 56) dX1_passDay_56 rfl ?_
  refine z_aload_n (pc := 57) dX1_passDay_57 rfl ?_
  refine z_cV1 (pc := 58) (c_X1_ping_14 hT ho) (q_cX1_71 _ (by decide)) z_s12 rfl rfl dX1_passDay_58 ?_
  refine z_istore_n (pc := 61) dX1_passDay_61 rfl (by decide) ?_
  refine z_aload_n (pc := 62) dX1_passDay_62 rfl ?_
  refine z_aload_n (pc := 63) dX1_passDay_63 rfl ?_
  refine z_cV1v (pc := 64) (c_X1_wearDown_14 hT2) (q_cX1_95 _ (by decide)) z_s12 rfl rfl dX1_passDay_64 ?_
  refine z_aload_n (pc := 67) dX1_passDay_67 rfl ?_
  refine z_dup (pc := 68) dX1_passDay_68 rfl ?_
  refine z_getI (pc := 69) q_fX1_81 z_s14 rfl dX1_passDay_69 ?_
  refine z_iconst (pc := 72) (v := 1) dX1_passDay_72 (by decide) ?_
  refine z_iadd (pc := 73) dX1_passDay_73 ?_
  refine z_putI (pc := 74) q_fX1_81 q_p2_2 z_s14 rfl dX1_passDay_74 ?_
  refine z_iload_n (pc := 77) dX1_passDay_77 rfl ?_
  refine z_iret (pc := 78) rfl dX1_passDay_78 ?_ ?_
  · rfl
  · rw [z_row_n _ _ (by decide), pm_q0 M (by decide), pm_13, pm_q M (by decide), upd_n _ _ (by decide), pm_n M (by decide) (by decide)]; rfl
set_option maxRecDepth 100000 in
set_option maxHeartbeats 400000 in
theorem c_X1_passDay_14 {M : z_Mem} {T : TT} {U : UT} (hT : TK M T) (hU : UK M U) {p : PLt} (hp : PlAt M 14 p) (ho : sm7 p.1) (hd9 : p.2.2 < 2 ^ 29) : ∃ M1, z_Ct mX1_passDay [.ref 12, .ref 14] M (some (.int (pgR (dyO T p) (dayF T U p).1))) M1 ∧ PlAt M1 14 (dayF T U p) ∧ Sb [13, 14, 15] M M1 := by
  obtain ⟨h0, hw, hd⟩ := hp
  have hk : spF (M.1 7) (M.1 14 0) T.1 = dyO T p := by
    rw [h0]; exact spF_cong _ (fun k hk => (hT.2 k hk).2)
  have hk2 : spF T.2.2.2.2 (M.1 14 0) T.1 = dyO T p := by rw [h0]; rfl
  have hsm : sm7 (dyO T p) := spF_sm ho _
  have hc := c_X1_springShut_14 hT
  rw [hk2] at hc
  have hcl := c_X1_clear (M := z_set M 14 0 (dyO T p))
  have hTs : ∀ f, TK (z_row (z_set M 14 0 (dyO T p)) 13 f) T := fun f => TK_sb hT ((Sb.set (ids := [13, 14]) _ (by simp)).tr (Sb.row _ (by simp))) (by simp)
  have hn : ∀ f i, i ≠ 13 → i ≠ 14 → (z_row (z_set M 14 0 (dyO T p)) 13 f).1 i = M.1 i := fun f i h1 h2 => by rw [z_row_n _ _ h1, z_set, z_row_n _ _ h2]
  have hq0 : ∀ f, (z_row (z_set M 14 0 (dyO T p)) 13 f).1 14 = upd (M.1 14) 0 (dyO T p) := fun f => by rw [z_row_n _ _ (by decide), z_set, z_row_1]
  have h13 : (z_set M 14 0 (dyO T p)).1 13 = M.1 13 := by rw [z_set, z_row_n _ _ (by decide)]
  by_cases hz : U.1 = 0
  · have hok := dyM_ok (U := U) (q := 14) (M := z_row (z_set M 14 0 (dyO T p)) 13 (cpF 6 (fun _ => 0) (M.1 13))) (p := p) hT.te hT.1.2.1 (by decide) (by rw [hq0, upd_1]) (fun k hk => by rw [hn _ _ (by decide) (by decide)]; exact hw k hk) (fun k hk => by rw [z_row_1, dyL, if_pos hz, cpF, if_pos hk]) (by rw [hq0, upd_n _ _ (by decide)]; exact hd)
    refine ⟨_, ?_, hok.1, ((Sb.set _ (by simp)).tr (Sb.row _ (by simp))).tr hok.2.1⟩
    refine z_entry (by decide +kernel) (Nat.le_of_ble_eq_true rfl) rfl ?_
    show z_Sm mX1_passDay _ _ 0 [some (.ref 12), some (.ref 14), none] [] M
    refine z_aload_n (pc := 0) dX1_passDay_0 rfl ?_
    refine z_aload_n (pc := 1) dX1_passDay_1 rfl ?_
    refine z_cV1v (pc := 2) hc (q_cX1_74 _ (by decide)) z_s12 rfl rfl dX1_passDay_2 ?_
    refine z_aload_n (pc := 5) dX1_passDay_5 rfl ?_
    refine z_cV0v (pc := 6) hcl (q_cX1_64 _ (by decide)) z_s12 rfl rfl dX1_passDay_6 ?_
    refine z_aload_n (pc := 9) dX1_passDay_9 rfl ?_
    refine z_getR (pc := 10) 3 q_fX1_15 z_s12 rfl dX1_passDay_10 ?_
    refine z_getI (pc := 13) q_fX1_78 z_s3 rfl dX1_passDay_13 ?_
    refine z_if_le (pc := 16) (tgt := 56) dX1_passDay_16 (by decide) (fun h16 => ?_) (fun h16 => ?_)
    · rw [h13]
      have hs := s_X1_passDay_56_14a (hTs (cpF 6 (fun _ => 0) (M.1 13))) (by rw [hq0, upd_1]; exact hsm)
      rw [hok.2.2, show (z_row (z_set M 14 0 (dyO T p)) 13 (cpF 6 (fun _ => 0) (M.1 13))).1 14 0 = dyO T p by rw [hq0, upd_1]] at hs
      exact hs
    · exfalso
      rw [hn _ _ (by decide) (by decide), hU.1, hz] at h16
      exact h16 (Int32.le_refl 0)
  · have hpos : 0 < U.1 := Nat.pos_of_ne_zero hz
    have hmod : p.2.2 % U.1 < U.1 := Nat.mod_lt _ hpos
    obtain ⟨hx8, hx6, hx9⟩ := hU.2.2 _ hmod
    have hok := dyM_ok (U := U) (q := 14) (M := z_row (z_set M 14 0 (dyO T p)) 13 (upd (cpF 6 (fun _ => 0) (M.1 13)) (U.2.1 (p.2.2 % U.1)) (cpF 6 (fun _ => 0) (M.1 13) (U.2.1 (p.2.2 % U.1)) + U.2.2 (p.2.2 % U.1)))) (p := p) hT.te hT.1.2.1 (by decide) (by rw [hq0, upd_1]) (fun k hk => by rw [hn _ _ (by decide) (by decide)]; exact hw k hk) (fun k hk => by
      rw [z_row_1, dyL, if_neg hz]
      unfold tgL upd cpF
      split
      · simp
      · rfl) (by rw [hq0, upd_n _ _ (by decide)]; exact hd)
    have hbu := c_X1_burden (M := z_row (z_set M 14 0 (dyO T p)) 13 (cpF 6 (fun _ => 0) (M.1 13))) (n := U.2.2 (p.2.2 % U.1)) hx8 hx6
    rw [z_row_1, z_row_row] at hbu
    refine ⟨_, ?_, hok.1, ((Sb.set _ (by simp)).tr (Sb.row _ (by simp))).tr hok.2.1⟩
    refine z_entry (by decide +kernel) (Nat.le_of_ble_eq_true rfl) rfl ?_
    show z_Sm mX1_passDay _ _ 0 [some (.ref 12), some (.ref 14), none] [] M
    refine z_aload_n (pc := 0) dX1_passDay_0 rfl ?_
    refine z_aload_n (pc := 1) dX1_passDay_1 rfl ?_
    refine z_cV1v (pc := 2) hc (q_cX1_74 _ (by decide)) z_s12 rfl rfl dX1_passDay_2 ?_
    refine z_aload_n (pc := 5) dX1_passDay_5 rfl ?_
    refine z_cV0v (pc := 6) hcl (q_cX1_64 _ (by decide)) z_s12 rfl rfl dX1_passDay_6 ?_
    rw [h13]
    refine z_aload_n (pc := 9) dX1_passDay_9 rfl ?_
    refine z_getR (pc := 10) 3 q_fX1_15 z_s12 rfl dX1_passDay_10 ?_
    refine z_getI (pc := 13) q_fX1_78 z_s3 rfl dX1_passDay_13 ?_
    refine z_if_le (pc := 16) (tgt := 56) dX1_passDay_16 (by decide) (fun h16 => ?_) (fun h16 => ?_)
    · exfalso
      rw [hn _ _ (by decide) (by decide), hU.1] at h16
      exact nI_nle hpos (by have := hU.2.1; omega) h16
    · refine z_aload_n (pc := 19) dX1_passDay_19 rfl ?_
      refine z_getI (pc := 20) q_fX1_81 z_s14 rfl dX1_passDay_20 ?_
      refine z_aload_n (pc := 23) dX1_passDay_23 rfl ?_
      refine z_getR (pc := 24) 3 q_fX1_15 z_s12 rfl dX1_passDay_24 ?_
      refine z_getI (pc := 27) q_fX1_78 z_s3 rfl dX1_passDay_27 ?_
      refine z_cS2 (pc := 30) (c_J9_floorMod_7cf53 (by rw [hq0, upd_n _ _ (by decide)]; exact hd) (by rw [hn _ _ (by decide) (by decide)]; exact hU.1) (by omega) hpos (by have := hU.2.1; omega)) (q_cX1_84 _ (by decide)) rfl dX1_passDay_30 ?_
      refine z_istore_n (pc := 33) dX1_passDay_33 rfl (by decide) ?_
      refine z_aload_n (pc := 34) dX1_passDay_34 rfl ?_
      refine z_aload_n (pc := 35) dX1_passDay_35 rfl ?_
      refine z_getR (pc := 36) 3 q_fX1_15 z_s12 rfl dX1_passDay_36 ?_
      refine z_getR (pc := 39) 8 q_fX1_89 z_s3 rfl dX1_passDay_39 ?_
      refine z_iload_n (pc := 42) dX1_passDay_42 rfl ?_
      refine z_iald (pc := 43) (p.2.2 % U.1) z_s8 ⟨rfl, by have := hU.2.1; omega, by decide⟩ dX1_passDay_43 ?_
      refine z_aload_n (pc := 44) dX1_passDay_44 rfl ?_
      refine z_getR (pc := 45) 3 q_fX1_15 z_s12 rfl dX1_passDay_45 ?_
      refine z_getR (pc := 48) 9 q_fX1_92 z_s3 rfl dX1_passDay_48 ?_
      refine z_iload_n (pc := 51) dX1_passDay_51 rfl ?_
      refine z_iald (pc := 52) (p.2.2 % U.1) z_s9 ⟨rfl, by have := hU.2.1; omega, by decide⟩ dX1_passDay_52 ?_
      rw [hn _ 9 (by decide) (by decide), hx9]
      refine z_cV2v (pc := 53) hbu (q_cX1_67 _ (by decide)) z_s12 rfl rfl dX1_passDay_53 ?_
      have hs := s_X1_passDay_56_14b (z := nI (p.2.2 % U.1)) (hTs (upd (cpF 6 (fun _ => 0) (M.1 13)) (U.2.1 (p.2.2 % U.1)) (cpF 6 (fun _ => 0) (M.1 13) (U.2.1 (p.2.2 % U.1)) + U.2.2 (p.2.2 % U.1)))) (by rw [hq0, upd_1]; exact hsm)
      rw [hok.2.2, show (z_row (z_set M 14 0 (dyO T p)) 13 (upd (cpF 6 (fun _ => 0) (M.1 13)) (U.2.1 (p.2.2 % U.1)) (cpF 6 (fun _ => 0) (M.1 13) (U.2.1 (p.2.2 % U.1)) + U.2.2 (p.2.2 % U.1)))).1 14 0 = dyO T p by rw [hq0, upd_1]] at hs
      exact hs
set_option maxRecDepth 100000 in
set_option maxHeartbeats 400000 in
theorem e_X1_pullAt_16 {M : z_Mem} {T : TT} (hT : TK M T) (ho : sm7 (M.1 16 0)) {x n : Int32} {t : Nat} (hx : x = nI t) (ht : t < 6) : z_Ct mX1_pullAt [.ref 12, .ref 16, .int x, .int n] M (some (.int (pgR (M.1 16 0) (pgF T (M.1 17) (M.1 16 0) (upd (cpF 6 (fun _ => 0) (M.1 13)) t (cpF 6 (fun _ => 0) (M.1 13) t + n)) (T.1 + 1)).1))) (pm M 16 (pgF T (M.1 17) (M.1 16 0) (upd (cpF 6 (fun _ => 0) (M.1 13)) t (cpF 6 (fun _ => 0) (M.1 13) t + n)) (T.1 + 1)).1 (pgF T (M.1 17) (M.1 16 0) (upd (cpF 6 (fun _ => 0) (M.1 13)) t (cpF 6 (fun _ => 0) (M.1 13) t + n)) (T.1 + 1)).2) := by
  refine z_entry (by decide +kernel) (Nat.le_of_ble_eq_true rfl) rfl ?_
  show z_Sm mX1_pullAt _ _ 0 [some (.ref 12), some (.ref 16), some (.int x), some (.int n)] [] M
  refine z_aload_n (pc := 0) dX1_pullAt_0 rfl ?_
  refine z_cV0v (pc := 1) c_X1_clear (q_cX1_64 _ (by decide)) z_s12 rfl rfl dX1_pullAt_1 ?_
  refine z_aload_n (pc := 4) dX1_pullAt_4 rfl ?_
  refine z_iload_n (pc := 5) dX1_pullAt_5 rfl ?_
  refine z_iload_n (pc := 6) dX1_pullAt_6 rfl ?_
  refine z_cV2v (pc := 7) (c_X1_burden hx ht) (q_cX1_67 _ (by decide)) z_s12 rfl rfl dX1_pullAt_7 ?_
  refine z_aload_n (pc := 10) dX1_pullAt_10 rfl ?_
  refine z_aload_n (pc := 11) dX1_pullAt_11 rfl ?_
  refine z_cV1 (pc := 12) (c_X1_ping_16 (T := T) (TK_cong hT (by simp [z_row]) (by simp [z_row]) (by simp [z_row]) (by simp [z_row]) (by simp [z_row])) (by simp only [z_row_row, z_row_1]; rw [z_row_n _ _ (by decide)]; exact ho)) (q_cX1_71 _ (by decide)) z_s12 rfl rfl dX1_pullAt_12 ?_
  refine z_iret (pc := 15) rfl dX1_pullAt_15 ?_ ?_
  · simp only [z_row_row, z_row_1]
    rw [z_row_n _ _ (by decide), z_row_n _ _ (by decide)]
  · simp only [z_row_row, z_row_1]
    rw [z_row_n _ _ (by decide), z_row_n _ _ (by decide), pm_pre (by decide)]
set_option maxRecDepth 100000 in
set_option maxHeartbeats 400000 in
theorem c_X1_pullAt_16 {M : z_Mem} {T : TT} (hT : TK M T) {p : PLt} (hp : PlAt M 16 p) (ho : sm7 p.1) {x n : Int32} {t : Nat} (hx : x = nI t) (ht : t < 6) : ∃ M1, z_Ct mX1_pullAt [.ref 12, .ref 16, .int x, .int n] M (some (.int (pgR p.1 (tugF T p t n).1))) M1 ∧ PlAt M1 16 (tugF T p t n) ∧ Sb [13, 16, 17] M M1 := by
  obtain ⟨h0, hw, hd⟩ := hp
  have hc := pgF_cong (o := M.1 16 0) hT.te (w := M.1 17) (v := p.2.1) (L := upd (cpF 6 (fun _ => 0) (M.1 13)) t (cpF 6 (fun _ => 0) (M.1 13) t + n)) (K := tgL t n) (fun k hk => hw k (by have := hT.1.2.1; omega)) (fun k hk => by
    unfold tgL upd cpF
    split
    · simp
    · rfl) (T.1 + 1)
  have e := e_X1_pullAt_16 hT (h0 ▸ ho) (n := n) hx ht
  have e1 := hc.1
  rw [h0] at e e1
  refine ⟨_, e1 ▸ e, ⟨?_, fun k hk => ?_, ?_⟩, Sb.pm _ _ (by simp) (by simp)⟩
  · rw [pm_q0 M (by decide)]; rfl
  · rw [pm_n M (by decide) (by decide)]; exact hw k hk
  · rw [pm_q M (by decide), upd_n _ _ (by decide)]; exact hd
set_option maxRecDepth 100000 in
set_option maxHeartbeats 400000 in
theorem s_X1_passDay_56_16a {M : z_Mem} {T : TT} (hT : TK M T) (ho : sm7 (M.1 16 0)) : z_Sm mX1_passDay (some (.int (pgR (M.1 16 0) (pgF T (M.1 17) (M.1 16 0) (M.1 13) (T.1 + 1)).1))) (dyM T 16 M) 56 [some (.ref 12), some (.ref 16), none] [] M := by
  have hT2 : TK (pm M 16 (pgF T (M.1 17) (M.1 16 0) (M.1 13) (T.1 + 1)).1 (pgF T (M.1 17) (M.1 16 0) (M.1 13) (T.1 + 1)).2) T := TK_pm hT (by decide) _ _
  refine z_aload_n (pc := 56) dX1_passDay_56 rfl ?_
  refine z_aload_n (pc := 57) dX1_passDay_57 rfl ?_
  refine z_cV1 (pc := 58) (c_X1_ping_16 hT ho) (q_cX1_71 _ (by decide)) z_s12 rfl rfl dX1_passDay_58 ?_
  refine z_istore_n (pc := 61) dX1_passDay_61 rfl (by decide) ?_
  refine z_aload_n (pc := 62) dX1_passDay_62 rfl ?_
  refine z_aload_n (pc := 63) dX1_passDay_63 rfl ?_
  refine z_cV1v (pc := 64) (c_X1_wearDown_16 hT2) (q_cX1_95 _ (by decide)) z_s12 rfl rfl dX1_passDay_64 ?_
  refine z_aload_n (pc := 67) dX1_passDay_67 rfl ?_
  refine z_dup (pc := 68) dX1_passDay_68 rfl ?_
  refine z_getI (pc := 69) q_fX1_81 z_s16 rfl dX1_passDay_69 ?_
  refine z_iconst (pc := 72) (v := 1) dX1_passDay_72 (by decide) ?_
  refine z_iadd (pc := 73) dX1_passDay_73 ?_
  refine z_putI (pc := 74) q_fX1_81 q_p2_2 z_s16 rfl dX1_passDay_74 ?_
  refine z_iload_n (pc := 77) dX1_passDay_77 rfl ?_
  refine z_iret (pc := 78) rfl dX1_passDay_78 ?_ ?_
  · rfl
  · rw [z_row_n _ _ (by decide), pm_q0 M (by decide), pm_13, pm_q M (by decide), upd_n _ _ (by decide), pm_n M (by decide) (by decide)]; rfl
set_option maxRecDepth 100000 in
set_option maxHeartbeats 400000 in
theorem s_X1_passDay_56_16b {M : z_Mem} {T : TT} (hT : TK M T) (ho : sm7 (M.1 16 0)) {z : Int32} : z_Sm mX1_passDay (some (.int (pgR (M.1 16 0) (pgF T (M.1 17) (M.1 16 0) (M.1 13) (T.1 + 1)).1))) (dyM T 16 M) 56 [some (.ref 12), some (.ref 16), some (.int z)] [] M := by
  have hT2 : TK (pm M 16 (pgF T (M.1 17) (M.1 16 0) (M.1 13) (T.1 + 1)).1 (pgF T (M.1 17) (M.1 16 0) (M.1 13) (T.1 + 1)).2) T := TK_pm hT (by decide) _ _
  refine z_aload_n (pc := 56) dX1_passDay_56 rfl ?_
  refine z_aload_n (pc := 57) dX1_passDay_57 rfl ?_
  refine z_cV1 (pc := 58) (c_X1_ping_16 hT ho) (q_cX1_71 _ (by decide)) z_s12 rfl rfl dX1_passDay_58 ?_
  refine z_istore_n (pc := 61) dX1_passDay_61 rfl (by decide) ?_
  refine z_aload_n (pc := 62) dX1_passDay_62 rfl ?_
  refine z_aload_n (pc := 63) dX1_passDay_63 rfl ?_
  refine z_cV1v (pc := 64) (c_X1_wearDown_16 hT2) (q_cX1_95 _ (by decide)) z_s12 rfl rfl dX1_passDay_64 ?_
  refine z_aload_n (pc := 67) dX1_passDay_67 rfl ?_
  refine z_dup (pc := 68) dX1_passDay_68 rfl ?_
  refine z_getI (pc := 69) q_fX1_81 z_s16 rfl dX1_passDay_69 ?_
  refine z_iconst (pc := 72) (v := 1) dX1_passDay_72 (by decide) ?_
  refine z_iadd (pc := 73) dX1_passDay_73 ?_
  refine z_putI (pc := 74) q_fX1_81 q_p2_2 z_s16 rfl dX1_passDay_74 ?_
  refine z_iload_n (pc := 77) dX1_passDay_77 rfl ?_
  refine z_iret (pc := 78) rfl dX1_passDay_78 ?_ ?_
  · rfl
  · rw [z_row_n _ _ (by decide), pm_q0 M (by decide), pm_13, pm_q M (by decide), upd_n _ _ (by decide), pm_n M (by decide) (by decide)]; rfl
set_option maxRecDepth 100000 in
set_option maxHeartbeats 400000 in
theorem c_X1_passDay_16 {M : z_Mem} {T : TT} {U : UT} (hT : TK M T) (hU : UK M U) {p : PLt} (hp : PlAt M 16 p) (ho : sm7 p.1) (hd9 : p.2.2 < 2 ^ 29) : ∃ M1, z_Ct mX1_passDay [.ref 12, .ref 16] M (some (.int (pgR (dyO T p) (dayF T U p).1))) M1 ∧ PlAt M1 16 (dayF T U p) ∧ Sb [13, 16, 17] M M1 := by
  obtain ⟨h0, hw, hd⟩ := hp
  have hk : spF (M.1 7) (M.1 16 0) T.1 = dyO T p := by
    rw [h0]; exact spF_cong _ (fun k hk => (hT.2 k hk).2)
  have hk2 : spF T.2.2.2.2 (M.1 16 0) T.1 = dyO T p := by rw [h0]; rfl
  have hsm : sm7 (dyO T p) := spF_sm ho _
  have hc := c_X1_springShut_16 hT
  rw [hk2] at hc
  have hcl := c_X1_clear (M := z_set M 16 0 (dyO T p))
  have hTs : ∀ f, TK (z_row (z_set M 16 0 (dyO T p)) 13 f) T := fun f => TK_sb hT ((Sb.set (ids := [13, 16]) _ (by simp)).tr (Sb.row _ (by simp))) (by simp)
  have hn : ∀ f i, i ≠ 13 → i ≠ 16 → (z_row (z_set M 16 0 (dyO T p)) 13 f).1 i = M.1 i := fun f i h1 h2 => by rw [z_row_n _ _ h1, z_set, z_row_n _ _ h2]
  have hq0 : ∀ f, (z_row (z_set M 16 0 (dyO T p)) 13 f).1 16 = upd (M.1 16) 0 (dyO T p) := fun f => by rw [z_row_n _ _ (by decide), z_set, z_row_1]
  have h13 : (z_set M 16 0 (dyO T p)).1 13 = M.1 13 := by rw [z_set, z_row_n _ _ (by decide)]
  by_cases hz : U.1 = 0
  · have hok := dyM_ok (U := U) (q := 16) (M := z_row (z_set M 16 0 (dyO T p)) 13 (cpF 6 (fun _ => 0) (M.1 13))) (p := p) hT.te hT.1.2.1 (by decide) (by rw [hq0, upd_1]) (fun k hk => by rw [hn _ _ (by decide) (by decide)]; exact hw k hk) (fun k hk => by rw [z_row_1, dyL, if_pos hz, cpF, if_pos hk]) (by rw [hq0, upd_n _ _ (by decide)]; exact hd)
    refine ⟨_, ?_, hok.1, ((Sb.set _ (by simp)).tr (Sb.row _ (by simp))).tr hok.2.1⟩
    refine z_entry (by decide +kernel) (Nat.le_of_ble_eq_true rfl) rfl ?_
    show z_Sm mX1_passDay _ _ 0 [some (.ref 12), some (.ref 16), none] [] M
    refine z_aload_n (pc := 0) dX1_passDay_0 rfl ?_
    refine z_aload_n (pc := 1) dX1_passDay_1 rfl ?_
    refine z_cV1v (pc := 2) hc (q_cX1_74 _ (by decide)) z_s12 rfl rfl dX1_passDay_2 ?_
    refine z_aload_n (pc := 5) dX1_passDay_5 rfl ?_
    refine z_cV0v (pc := 6) hcl (q_cX1_64 _ (by decide)) z_s12 rfl rfl dX1_passDay_6 ?_
    refine z_aload_n (pc := 9) dX1_passDay_9 rfl ?_
    refine z_getR (pc := 10) 3 q_fX1_15 z_s12 rfl dX1_passDay_10 ?_
    refine z_getI (pc := 13) q_fX1_78 z_s3 rfl dX1_passDay_13 ?_
    refine z_if_le (pc := 16) (tgt := 56) dX1_passDay_16 (by decide) (fun h16 => ?_) (fun h16 => ?_)
    · rw [h13]
      have hs := s_X1_passDay_56_16a (hTs (cpF 6 (fun _ => 0) (M.1 13))) (by rw [hq0, upd_1]; exact hsm)
      rw [hok.2.2, show (z_row (z_set M 16 0 (dyO T p)) 13 (cpF 6 (fun _ => 0) (M.1 13))).1 16 0 = dyO T p by rw [hq0, upd_1]] at hs
      exact hs
    · exfalso
      rw [hn _ _ (by decide) (by decide), hU.1, hz] at h16
      exact h16 (Int32.le_refl 0)
  · have hpos : 0 < U.1 := Nat.pos_of_ne_zero hz
    have hmod : p.2.2 % U.1 < U.1 := Nat.mod_lt _ hpos
    obtain ⟨hx8, hx6, hx9⟩ := hU.2.2 _ hmod
    have hok := dyM_ok (U := U) (q := 16) (M := z_row (z_set M 16 0 (dyO T p)) 13 (upd (cpF 6 (fun _ => 0) (M.1 13)) (U.2.1 (p.2.2 % U.1)) (cpF 6 (fun _ => 0) (M.1 13) (U.2.1 (p.2.2 % U.1)) + U.2.2 (p.2.2 % U.1)))) (p := p) hT.te hT.1.2.1 (by decide) (by rw [hq0, upd_1]) (fun k hk => by rw [hn _ _ (by decide) (by decide)]; exact hw k hk) (fun k hk => by
      rw [z_row_1, dyL, if_neg hz]
      unfold tgL upd cpF
      split
      · simp
      · rfl) (by rw [hq0, upd_n _ _ (by decide)]; exact hd)
    have hbu := c_X1_burden (M := z_row (z_set M 16 0 (dyO T p)) 13 (cpF 6 (fun _ => 0) (M.1 13))) (n := U.2.2 (p.2.2 % U.1)) hx8 hx6
    rw [z_row_1, z_row_row] at hbu
    refine ⟨_, ?_, hok.1, ((Sb.set _ (by simp)).tr (Sb.row _ (by simp))).tr hok.2.1⟩
    refine z_entry (by decide +kernel) (Nat.le_of_ble_eq_true rfl) rfl ?_
    show z_Sm mX1_passDay _ _ 0 [some (.ref 12), some (.ref 16), none] [] M
    refine z_aload_n (pc := 0) dX1_passDay_0 rfl ?_
    refine z_aload_n (pc := 1) dX1_passDay_1 rfl ?_
    refine z_cV1v (pc := 2) hc (q_cX1_74 _ (by decide)) z_s12 rfl rfl dX1_passDay_2 ?_
    refine z_aload_n (pc := 5) dX1_passDay_5 rfl ?_
    refine z_cV0v (pc := 6) hcl (q_cX1_64 _ (by decide)) z_s12 rfl rfl dX1_passDay_6 ?_
    rw [h13]
    refine z_aload_n (pc := 9) dX1_passDay_9 rfl ?_
    refine z_getR (pc := 10) 3 q_fX1_15 z_s12 rfl dX1_passDay_10 ?_
    refine z_getI (pc := 13) q_fX1_78 z_s3 rfl dX1_passDay_13 ?_
    refine z_if_le (pc := 16) (tgt := 56) dX1_passDay_16 (by decide) (fun h16 => ?_) (fun h16 => ?_)
    · exfalso
      rw [hn _ _ (by decide) (by decide), hU.1] at h16
      exact nI_nle hpos (by have := hU.2.1; omega) h16
    · refine z_aload_n (pc := 19) dX1_passDay_19 rfl ?_
      refine z_getI (pc := 20) q_fX1_81 z_s16 rfl dX1_passDay_20 ?_
      refine z_aload_n (pc := 23) dX1_passDay_23 rfl ?_
      refine z_getR (pc := 24) 3 q_fX1_15 z_s12 rfl dX1_passDay_24 ?_
      refine z_getI (pc := 27) q_fX1_78 z_s3 rfl dX1_passDay_27 ?_
      refine z_cS2 (pc := 30) (c_J9_floorMod_7cf53 (by rw [hq0, upd_n _ _ (by decide)]; exact hd) (by rw [hn _ _ (by decide) (by decide)]; exact hU.1) (by omega) hpos (by have := hU.2.1; omega)) (q_cX1_84 _ (by decide)) rfl dX1_passDay_30 ?_
      refine z_istore_n (pc := 33) dX1_passDay_33 rfl (by decide) ?_
      refine z_aload_n (pc := 34) dX1_passDay_34 rfl ?_
      refine z_aload_n (pc := 35) dX1_passDay_35 rfl ?_
      refine z_getR (pc := 36) 3 q_fX1_15 z_s12 rfl dX1_passDay_36 ?_
      refine z_getR (pc := 39) 8 q_fX1_89 z_s3 rfl dX1_passDay_39 ?_
      refine z_iload_n (pc := 42) dX1_passDay_42 rfl ?_
      refine z_iald (pc := 43) (p.2.2 % U.1) z_s8 ⟨rfl, by have := hU.2.1; omega, by decide⟩ dX1_passDay_43 ?_
      refine z_aload_n (pc := 44) dX1_passDay_44 rfl ?_
      refine z_getR (pc := 45) 3 q_fX1_15 z_s12 rfl dX1_passDay_45 ?_
      refine z_getR (pc := 48) 9 q_fX1_92 z_s3 rfl dX1_passDay_48 ?_
      refine z_iload_n (pc := 51) dX1_passDay_51 rfl ?_
      refine z_iald (pc := 52) (p.2.2 % U.1) z_s9 ⟨rfl, by have := hU.2.1; omega, by decide⟩ dX1_passDay_52 ?_
      rw [hn _ 9 (by decide) (by decide), hx9]
      refine z_cV2v (pc := 53) hbu (q_cX1_67 _ (by decide)) z_s12 rfl rfl dX1_passDay_53 ?_
      have hs := s_X1_passDay_56_16b (z := nI (p.2.2 % U.1)) (hTs (upd (cpF 6 (fun _ => 0) (M.1 13)) (U.2.1 (p.2.2 % U.1)) (cpF 6 (fun _ => 0) (M.1 13) (U.2.1 (p.2.2 % U.1)) + U.2.2 (p.2.2 % U.1)))) (by rw [hq0, upd_1]; exact hsm)
      rw [hok.2.2, show (z_row (z_set M 16 0 (dyO T p)) 13 (upd (cpF 6 (fun _ => 0) (M.1 13)) (U.2.1 (p.2.2 % U.1)) (cpF 6 (fun _ => 0) (M.1 13) (U.2.1 (p.2.2 % U.1)) + U.2.2 (p.2.2 % U.1)))).1 16 0 = dyO T p by rw [hq0, upd_1]] at hs
      exact hs
end
section
/-- q is a plight's number, q + 1 its row of wear -/
def PL (q : Nat) : Prop := z_shp[q]? = some (.inr (.inl (2, [0, q + 1 + 2, 0]))) ∧ z_shp[q + 1]? = some (.inl (0, 7))
theorem PL_acts : ∀ t, t < 14 → PL (20 + 2 * t)
  | 0, _ => ⟨rfl, rfl⟩
  | 1, _ => ⟨rfl, rfl⟩
  | 2, _ => ⟨rfl, rfl⟩
  | 3, _ => ⟨rfl, rfl⟩
  | 4, _ => ⟨rfl, rfl⟩
  | 5, _ => ⟨rfl, rfl⟩
  | 6, _ => ⟨rfl, rfl⟩
  | 7, _ => ⟨rfl, rfl⟩
  | 8, _ => ⟨rfl, rfl⟩
  | 9, _ => ⟨rfl, rfl⟩
  | 10, _ => ⟨rfl, rfl⟩
  | 11, _ => ⟨rfl, rfl⟩
  | 12, _ => ⟨rfl, rfl⟩
  | 13, _ => ⟨rfl, rfl⟩
  | t + 14, h => absurd h (by omega)
theorem PL_14 : PL 14 := ⟨rfl, rfl⟩
theorem PL_16 : PL 16 := ⟨rfl, rfl⟩
theorem PL_49 : PL 49 := ⟨rfl, rfl⟩
theorem PL_51 : PL 51 := ⟨rfl, rfl⟩
set_option maxRecDepth 100000 in
set_option maxHeartbeats 400000 in
theorem s_X2_become_18 {M M2 : z_Mem} {r : Option Value} {q p : Nat} (hq : PL q) (hp : PL p) (h9 : p ≠ q) (kk : z_Sm mX2_become r M2 42 [some (.ref q), some (.ref p), none] [] (z_row M (q + 1) (cpF (7) (M.1 (p + 1)) (M.1 (q + 1))))) (j : Nat) (hj : j ≤ 7) (ij : Int32) (Mj : z_Mem) (h2 : ij = nI j) (hM : Mj = z_row M (q + 1) (cpF j (M.1 (p + 1)) (M.1 (q + 1)))) : z_Sm mX2_become r M2 18 [some (.ref q), some (.ref p), some (.int ij)] [] Mj := by
  refine z_iload_n (pc := 18) dX2_become_18 rfl ?_
  refine z_bipush (pc := 19) (v := 7) dX2_become_19 (by decide) ?_
  refine z_icmp_ge (pc := 21) (tgt := 42) dX2_become_21 (by decide) (fun h21 => ?_) (fun h21 => ?_)
  · have hNj : 7 ≤ j := by
      have := z_ge h21 h2 (show (7 : Int32) = nI 7 from rfl) (by omega) (by omega)
      omega
    obtain rfl : j = 7 := by omega
    subst hM
    exact z_drop 2 kk
  · have hlt : j < 7 := by
      have := z_lt h21 h2 (show (7 : Int32) = nI 7 from rfl) (by omega) (by omega)
      omega
    refine z_aload_n (pc := 24) dX2_become_24 rfl ?_
    refine z_getR (pc := 25) (q + 1) q_fX2_15 hq.1 rfl dX2_become_25 ?_
    refine z_iload_n (pc := 28) dX2_become_28 rfl ?_
    refine z_aload_n (pc := 29) dX2_become_29 rfl ?_
    refine z_getR (pc := 30) (p + 1) q_fX2_15 hp.1 rfl dX2_become_30 ?_
    refine z_iload_n (pc := 33) dX2_become_33 rfl ?_
    refine z_iald (pc := 34) (j) hp.2 ⟨h2, hlt, by decide⟩ dX2_become_34 ?_
    refine z_iast (pc := 35) (j) hq.2 ⟨h2, hlt, by decide⟩ dX2_become_35 ?_
    refine z_iinc (pc := 36) dX2_become_36 rfl rfl rfl (by decide) ?_
    refine z_goto (pc := 39) (tgt := 18) dX2_become_39 (by decide) ?_
    exact s_X2_become_18 hq hp h9 kk (j + 1) hlt _ _ (z_n1 h2) (by rw [hM, z_set, z_row_1, z_row_n _ _ (by omega), z_row_row, cpF_s])
termination_by 7 - j
decreasing_by all_goals omega
set_option maxRecDepth 100000 in
set_option maxHeartbeats 400000 in
theorem e_X2_become {M : z_Mem} {q p : Nat} (hq : PL q) (hp : PL p) (h9 : p ≠ q) (h8 : p ≠ q + 1) (h7 : q ≠ p + 1) : z_Ct mX2_become [.ref q, .ref p] M none (z_row (z_set (z_set M q 0 (M.1 p 0)) q 2 (M.1 p 2)) (q + 1) (cpF 7 (M.1 (p + 1)) (M.1 (q + 1)))) := by
  refine z_entry (by decide +kernel) (Nat.le_of_ble_eq_true rfl) rfl ?_
  show z_Sm mX2_become _ _ 0 [some (.ref q), some (.ref p), none] [] M
  refine z_aload_n (pc := 0) dX2_become_0 rfl ?_
  refine z_aload_n (pc := 1) dX2_become_1 rfl ?_
  refine z_getI (pc := 2) q_fX2_9 hp.1 rfl dX2_become_2 ?_
  refine z_putI (pc := 5) q_fX2_9 q_p2_0 hq.1 rfl dX2_become_5 ?_
  refine z_aload_n (pc := 8) dX2_become_8 rfl ?_
  refine z_aload_n (pc := 9) dX2_become_9 rfl ?_
  refine z_getI (pc := 10) q_fX2_19 hp.1 rfl dX2_become_10 ?_
  refine z_putI (pc := 13) q_fX2_19 q_p2_2 hq.1 rfl dX2_become_13 ?_
  refine z_iconst (pc := 16) (v := 0) dX2_become_16 (by decide) ?_
  refine z_istore_n (pc := 17) dX2_become_17 rfl (by decide) ?_
  have e0 : (z_set M q 0 (M.1 p 0)).1 p 2 = M.1 p 2 := by rw [z_set, z_row_n _ _ h9]
  rw [e0]
  refine s_X2_become_18 hq hp h9 ?_ 0 (by omega) _ _ rfl (by rw [cpF_0, z_row_same])
  refine z_eq (N := z_row (z_set (z_set M q 0 (M.1 p 0)) q 2 (M.1 p 2)) (q + 1) (cpF 7 (M.1 (p + 1)) (M.1 (q + 1)))) rfl rfl ?_ ?_
  · have eN : ∀ i, i ≠ q → (z_set (z_set M q 0 (M.1 p 0)) q 2 (M.1 p 2)).1 i = M.1 i := fun i hi => by rw [z_set, z_row_n _ _ hi, z_set, z_row_n _ _ hi]
    rw [eN (p + 1) (by omega), eN (q + 1) (by omega)]
  · refine z_vret (pc := 42) rfl dX2_become_42 ?_
    rfl
theorem c_X2_become {M : z_Mem} {q p : Nat} (hq : PL q) (hp : PL p) (h9 : p ≠ q) (h8 : p ≠ q + 1) (h7 : q ≠ p + 1) {x : PLt} (hx : PlAt M p x) : ∃ M1, z_Ct mX2_become [.ref q, .ref p] M none M1 ∧ PlAt M1 q x ∧ Sb [q, q + 1] M M1 := by
  obtain ⟨h0, hw, hd⟩ := hx
  refine ⟨_, e_X2_become hq hp h9 h8 h7, ⟨?_, fun k hk => ?_, ?_⟩, ((Sb.set _ (by simp)).tr (Sb.set _ (by simp))).tr (Sb.row _ (by simp))⟩
  · rw [z_row_n _ _ (by omega), z_set, z_row_1, upd_n _ _ (by decide), z_set, z_row_1, upd_1]; exact h0
  · rw [z_row_1, cpF, if_pos hk]; exact hw k hk
  · rw [z_row_n _ _ (by omega), z_set, z_row_1, upd_1]; exact hd
set_option maxRecDepth 100000 in
set_option maxHeartbeats 400000 in
theorem s_X2_begin_12 {M M2 : z_Mem} {r : Option Value}  (kk : z_Sm mX2_begin r M2 31 [some (.ref 14), none] [] (z_row M 15 (cpF (7) (fun _ => 0) (M.1 15)))) (j : Nat) (hj : j ≤ 7) (ij : Int32) (Mj : z_Mem) (h2 : ij = nI j) (hM : Mj = z_row M 15 (cpF j (fun _ => 0) (M.1 15))) : z_Sm mX2_begin r M2 12 [some (.ref 14), some (.int ij)] [] Mj := by
  refine z_iload_n (pc := 12) dX2_begin_12 rfl ?_
  refine z_bipush (pc := 13) (v := 7) dX2_begin_13 (by decide) ?_
  refine z_icmp_ge (pc := 15) (tgt := 31) dX2_begin_15 (by decide) (fun h15 => ?_) (fun h15 => ?_)
  · have hNj : 7 ≤ j := by
      have := z_ge h15 h2 (show (7 : Int32) = nI 7 from rfl) (by omega) (by omega)
      omega
    obtain rfl : j = 7 := by omega
    subst hM
    exact z_drop 1 kk
  · have hlt : j < 7 := by
      have := z_lt h15 h2 (show (7 : Int32) = nI 7 from rfl) (by omega) (by omega)
      omega
    refine z_aload_n (pc := 18) dX2_begin_18 rfl ?_
    refine z_getR (pc := 19) 15 q_fX2_15 z_s14 rfl dX2_begin_19 ?_
    refine z_iload_n (pc := 22) dX2_begin_22 rfl ?_
    refine z_iconst (pc := 23) (v := 0) dX2_begin_23 (by decide) ?_
    refine z_iast (pc := 24) (j) z_s15 ⟨h2, hlt, by decide⟩ dX2_begin_24 ?_
    refine z_iinc (pc := 25) dX2_begin_25 rfl rfl rfl (by decide) ?_
    refine z_goto (pc := 28) (tgt := 12) dX2_begin_28 (by decide) ?_
    exact s_X2_begin_12  kk (j + 1) hlt _ _ (z_n1 h2) (by rw [hM, z_set, z_row_1, z_row_row]; exact congrArg (z_row M 15) (cpF_s j (fun _ => 0) (M.1 15)))
termination_by 7 - j
decreasing_by all_goals omega
set_option maxRecDepth 100000 in
set_option maxHeartbeats 400000 in
theorem c_X2_begin {M : z_Mem} : ∃ M1, z_Ct mX2_begin [.ref 14] M none M1 ∧ PlAt M1 14 (0, fun _ => 0, 0) ∧ Sb [14, 15] M M1 := by
  refine ⟨z_row (z_set (z_set M 14 0 0) 14 2 0) 15 (cpF 7 (fun _ => 0) ((z_set (z_set M 14 0 0) 14 2 0).1 15)), ?_, ⟨?_, fun k hk => ?_, ?_⟩, ((Sb.set _ (by simp)).tr (Sb.set _ (by simp))).tr (Sb.row _ (by simp))⟩
  · refine z_entry (by decide +kernel) (Nat.le_of_ble_eq_true rfl) rfl ?_
    show z_Sm mX2_begin _ _ 0 [some (.ref 14), none] [] M
    refine z_aload_n (pc := 0) dX2_begin_0 rfl ?_
    refine z_iconst (pc := 1) (v := 0) dX2_begin_1 (by decide) ?_
    refine z_putI (pc := 2) q_fX2_9 q_p2_0 z_s14 rfl dX2_begin_2 ?_
    refine z_aload_n (pc := 5) dX2_begin_5 rfl ?_
    refine z_iconst (pc := 6) (v := 0) dX2_begin_6 (by decide) ?_
    refine z_putI (pc := 7) q_fX2_19 q_p2_2 z_s14 rfl dX2_begin_7 ?_
    refine z_iconst (pc := 10) (v := 0) dX2_begin_10 (by decide) ?_
    refine z_istore_n (pc := 11) dX2_begin_11 rfl (by decide) ?_
    refine s_X2_begin_12 ?_ 0 (by omega) _ _ rfl (by rw [cpF_0, z_row_same])
    refine z_vret (pc := 31) rfl dX2_begin_31 ?_
    rfl
  · rw [z_row_n _ _ (by decide), z_set, z_row_1, upd_n _ _ (by decide), z_set, z_row_1, upd_1]
  · rw [z_row_1, cpF, if_pos hk]
  · rw [z_row_n _ _ (by decide), z_set, z_row_1, upd_1]; rfl
set_option maxRecDepth 100000 in
set_option maxHeartbeats 400000 in
theorem c_X2_close_14 {M : z_Mem} {p : PLt} (hp : PlAt M 14 p) {x : Int32} {j : Nat} (hx : x = nI j) (hj : j < 7) : ∃ M1, z_Ct mX2_close [.ref 14, .int x] M none M1 ∧ PlAt M1 14 (p.1 &&& (em j ^^^ (-1)), upd p.2.1 j 0, p.2.2) ∧ Sb [14, 15] M M1 := by
  obtain ⟨h0, hw, hd⟩ := hp
  refine ⟨z_set (z_set M 14 0 (p.1 &&& (em j ^^^ (-1)))) 15 j 0, ?_, ⟨?_, fun k hk => ?_, ?_⟩, (Sb.set _ (by simp)).tr (Sb.set _ (by simp))⟩
  · refine z_entry (by decide +kernel) (Nat.le_of_ble_eq_true rfl) rfl ?_
    show z_Sm mX2_close _ _ 0 [some (.ref 14), some (.int x)] [] M
    refine z_aload_n (pc := 0) dX2_close_0 rfl ?_
    refine z_dup (pc := 1) dX2_close_1 rfl ?_
    refine z_getI (pc := 2) q_fX2_9 z_s14 rfl dX2_close_2 ?_
    refine z_iconst (pc := 5) (v := 1) dX2_close_5 (by decide) ?_
    refine z_iload_n (pc := 6) dX2_close_6 rfl ?_
    refine z_ishl (pc := 7) dX2_close_7 ?_
    refine z_iconst (pc := 8) (v := (-1)) dX2_close_8 (by decide) ?_
    refine z_ixor (pc := 9) dX2_close_9 ?_
    refine z_iand (pc := 10) dX2_close_10 ?_
    refine z_putI (pc := 11) q_fX2_9 q_p2_0 z_s14 rfl dX2_close_11 ?_
    refine z_aload_n (pc := 14) dX2_close_14 rfl ?_
    refine z_getR (pc := 15) 15 q_fX2_15 z_s14 rfl dX2_close_15 ?_
    refine z_iload_n (pc := 18) dX2_close_18 rfl ?_
    refine z_iconst (pc := 19) (v := 0) dX2_close_19 (by decide) ?_
    refine z_iast (pc := 20) (j) z_s15 ⟨hx, hj, by decide⟩ dX2_close_20 ?_
    refine z_vret (pc := 21) rfl dX2_close_21 ?_
    rw [h0, hx]; rfl
  · rw [z_set, z_row_n _ _ (by decide), z_set, z_row_1, upd_1]
  · rw [z_set, z_row_1, z_set, z_row_n _ _ (by decide)]
    show (if k = j then (0 : Int32) else _) = if k = j then 0 else _
    split
    · rfl
    · exact hw k hk
  · rw [z_set, z_row_n _ _ (by decide), z_set, z_row_1, upd_n _ _ (by decide)]; exact hd
set_option maxRecDepth 100000 in
set_option maxHeartbeats 400000 in
theorem c_X2_unpin_14 {M : z_Mem} {p : PLt} (hp : PlAt M 14 p) {x : Int32} {j : Nat} (hx : x = nI j) : ∃ M1, z_Ct mX2_unpin [.ref 14, .int x] M none M1 ∧ PlAt M1 14 (p.1 ||| em j, p.2.1, p.2.2) ∧ Sb [14, 15] M M1 := by
  obtain ⟨h0, hw, hd⟩ := hp
  refine ⟨z_set M 14 0 (p.1 ||| em j), ?_, ⟨?_, fun k hk => ?_, ?_⟩, (Sb.set _ (by simp))⟩
  · refine z_entry (by decide +kernel) (Nat.le_of_ble_eq_true rfl) rfl ?_
    show z_Sm mX2_unpin _ _ 0 [some (.ref 14), some (.int x)] [] M
    refine z_aload_n (pc := 0) dX2_unpin_0 rfl ?_
    refine z_dup (pc := 1) dX2_unpin_1 rfl ?_
    refine z_getI (pc := 2) q_fX2_9 z_s14 rfl dX2_unpin_2 ?_
    refine z_iconst (pc := 5) (v := 1) dX2_unpin_5 (by decide) ?_
    refine z_iload_n (pc := 6) dX2_unpin_6 rfl ?_
    refine z_ishl (pc := 7) dX2_unpin_7 ?_
    refine z_ior (pc := 8) dX2_unpin_8 ?_
    refine z_putI (pc := 9) q_fX2_9 q_p2_0 z_s14 rfl dX2_unpin_9 ?_
    refine z_vret (pc := 12) rfl dX2_unpin_12 ?_
    rw [h0, hx]; rfl
  · rw [z_set, z_row_1, upd_1]
  · rw [z_set, z_row_n _ _ (by decide)]; exact hw k hk
  · rw [z_set, z_row_1, upd_n _ _ (by decide)]; exact hd
set_option maxRecDepth 100000 in
set_option maxHeartbeats 400000 in
theorem c_X2_close_16 {M : z_Mem} {p : PLt} (hp : PlAt M 16 p) {x : Int32} {j : Nat} (hx : x = nI j) (hj : j < 7) : ∃ M1, z_Ct mX2_close [.ref 16, .int x] M none M1 ∧ PlAt M1 16 (p.1 &&& (em j ^^^ (-1)), upd p.2.1 j 0, p.2.2) ∧ Sb [16, 17] M M1 := by
  obtain ⟨h0, hw, hd⟩ := hp
  refine ⟨z_set (z_set M 16 0 (p.1 &&& (em j ^^^ (-1)))) 17 j 0, ?_, ⟨?_, fun k hk => ?_, ?_⟩, (Sb.set _ (by simp)).tr (Sb.set _ (by simp))⟩
  · refine z_entry (by decide +kernel) (Nat.le_of_ble_eq_true rfl) rfl ?_
    show z_Sm mX2_close _ _ 0 [some (.ref 16), some (.int x)] [] M
    refine z_aload_n (pc := 0) dX2_close_0 rfl ?_
    refine z_dup (pc := 1) dX2_close_1 rfl ?_
    refine z_getI (pc := 2) q_fX2_9 z_s16 rfl dX2_close_2 ?_
    refine z_iconst (pc := 5) (v := 1) dX2_close_5 (by decide) ?_
    refine z_iload_n (pc := 6) dX2_close_6 rfl ?_
    refine z_ishl (pc := 7) dX2_close_7 ?_
    refine z_iconst (pc := 8) (v := (-1)) dX2_close_8 (by decide) ?_
    refine z_ixor (pc := 9) dX2_close_9 ?_
    refine z_iand (pc := 10) dX2_close_10 ?_
    refine z_putI (pc := 11) q_fX2_9 q_p2_0 z_s16 rfl dX2_close_11 ?_
    refine z_aload_n (pc := 14) dX2_close_14 rfl ?_
    refine z_getR (pc := 15) 17 q_fX2_15 z_s16 rfl dX2_close_15 ?_
    refine z_iload_n (pc := 18) dX2_close_18 rfl ?_
    refine z_iconst (pc := 19) (v := 0) dX2_close_19 (by decide) ?_
    refine z_iast (pc := 20) (j) z_s17 ⟨hx, hj, by decide⟩ dX2_close_20 ?_
    refine z_vret (pc := 21) rfl dX2_close_21 ?_
    rw [h0, hx]; rfl
  · rw [z_set, z_row_n _ _ (by decide), z_set, z_row_1, upd_1]
  · rw [z_set, z_row_1, z_set, z_row_n _ _ (by decide)]
    show (if k = j then (0 : Int32) else _) = if k = j then 0 else _
    split
    · rfl
    · exact hw k hk
  · rw [z_set, z_row_n _ _ (by decide), z_set, z_row_1, upd_n _ _ (by decide)]; exact hd
set_option maxRecDepth 100000 in
set_option maxHeartbeats 400000 in
theorem c_X2_unpin_16 {M : z_Mem} {p : PLt} (hp : PlAt M 16 p) {x : Int32} {j : Nat} (hx : x = nI j) : ∃ M1, z_Ct mX2_unpin [.ref 16, .int x] M none M1 ∧ PlAt M1 16 (p.1 ||| em j, p.2.1, p.2.2) ∧ Sb [16, 17] M M1 := by
  obtain ⟨h0, hw, hd⟩ := hp
  refine ⟨z_set M 16 0 (p.1 ||| em j), ?_, ⟨?_, fun k hk => ?_, ?_⟩, (Sb.set _ (by simp))⟩
  · refine z_entry (by decide +kernel) (Nat.le_of_ble_eq_true rfl) rfl ?_
    show z_Sm mX2_unpin _ _ 0 [some (.ref 16), some (.int x)] [] M
    refine z_aload_n (pc := 0) dX2_unpin_0 rfl ?_
    refine z_dup (pc := 1) dX2_unpin_1 rfl ?_
    refine z_getI (pc := 2) q_fX2_9 z_s16 rfl dX2_unpin_2 ?_
    refine z_iconst (pc := 5) (v := 1) dX2_unpin_5 (by decide) ?_
    refine z_iload_n (pc := 6) dX2_unpin_6 rfl ?_
    refine z_ishl (pc := 7) dX2_unpin_7 ?_
    refine z_ior (pc := 8) dX2_unpin_8 ?_
    refine z_putI (pc := 9) q_fX2_9 q_p2_0 z_s16 rfl dX2_unpin_9 ?_
    refine z_vret (pc := 12) rfl dX2_unpin_12 ?_
    rw [h0, hx]; rfl
  · rw [z_set, z_row_1, upd_1]
  · rw [z_set, z_row_n _ _ (by decide)]; exact hw k hk
  · rw [z_set, z_row_1, upd_n _ _ (by decide)]; exact hd
/-- wear of all pins of a row of seven -/
def wsF (w : Nat → Int32) : Nat → Int32
  | 0 => 0
  | n + 1 => wsF w n + w n
theorem wsF_cong {w v : Nat → Int32} : ∀ n, (∀ k, k < n → w k = v k) → wsF w n = wsF v n
  | 0, _ => rfl
  | n + 1, h => by rw [wsF, wsF, wsF_cong n (fun k hk => h k (by omega)), h n (by omega)]
set_option maxRecDepth 100000 in
set_option maxHeartbeats 400000 in
theorem s_X2_wearOfAll_4 {M M2 : z_Mem} {r : Option Value}  (kk : z_Sm mX2_wearOfAll r M2 25 [some (.ref 14), some (.int (wsF (M.1 15) (7))), none] [] (M)) (j : Nat) (hj : j ≤ 7) (ij : Int32) (v : Int32) (h2 : ij = nI j) (hv_v : v = wsF (M.1 15) j) : z_Sm mX2_wearOfAll r M2 4 [some (.ref 14), some (.int v), some (.int ij)] [] M := by
  refine z_iload_n (pc := 4) dX2_wearOfAll_4 rfl ?_
  refine z_bipush (pc := 5) (v := 7) dX2_wearOfAll_5 (by decide) ?_
  refine z_icmp_ge (pc := 7) (tgt := 25) dX2_wearOfAll_7 (by decide) (fun h7 => ?_) (fun h7 => ?_)
  · have hNj : 7 ≤ j := by
      have := z_ge h7 h2 (show (7 : Int32) = nI 7 from rfl) (by omega) (by omega)
      omega
    obtain rfl : j = 7 := by omega
    subst hv_v
    exact z_drop 2 kk
  · have hlt : j < 7 := by
      have := z_lt h7 h2 (show (7 : Int32) = nI 7 from rfl) (by omega) (by omega)
      omega
    refine z_iload_n (pc := 10) dX2_wearOfAll_10 rfl ?_
    refine z_aload_n (pc := 11) dX2_wearOfAll_11 rfl ?_
    refine z_getR (pc := 12) 15 q_fX2_15 z_s14 rfl dX2_wearOfAll_12 ?_
    refine z_iload_n (pc := 15) dX2_wearOfAll_15 rfl ?_
    refine z_iald (pc := 16) (j) z_s15 ⟨h2, hlt, by decide⟩ dX2_wearOfAll_16 ?_
    refine z_iadd (pc := 17) dX2_wearOfAll_17 ?_
    refine z_istore_n (pc := 18) dX2_wearOfAll_18 rfl (by decide) ?_
    refine z_iinc (pc := 19) dX2_wearOfAll_19 rfl rfl rfl (by decide) ?_
    refine z_goto (pc := 22) (tgt := 4) dX2_wearOfAll_22 (by decide) ?_
    exact s_X2_wearOfAll_4  kk (j + 1) hlt _ _ (z_n1 h2) (by rw [hv_v, wsF])
termination_by 7 - j
decreasing_by all_goals omega
set_option maxRecDepth 100000 in
set_option maxHeartbeats 400000 in
theorem c_X2_wearOfAll {M : z_Mem}  : z_Ct mX2_wearOfAll [.ref 14] M (some (.int (wsF (M.1 15) 7))) M := by
  refine z_entry (by decide +kernel) (Nat.le_of_ble_eq_true rfl) rfl ?_
  show z_Sm mX2_wearOfAll _ _ 0 [some (.ref 14), none, none] [] M
  refine z_iconst (pc := 0) (v := 0) dX2_wearOfAll_0 (by decide) ?_
  refine z_istore_n (pc := 1) dX2_wearOfAll_1 rfl (by decide) ?_
  refine z_iconst (pc := 2) (v := 0) dX2_wearOfAll_2 (by decide) ?_
  refine z_istore_n (pc := 3) dX2_wearOfAll_3 rfl (by decide) ?_
  refine s_X2_wearOfAll_4 ?_ 0 (by omega) _ _ rfl rfl
  refine z_iload_n (pc := 25) dX2_wearOfAll_25 rfl ?_
  refine z_iret (pc := 26) rfl dX2_wearOfAll_26 ?_ ?_
  · rfl
  · rfl
/-- the row of acts: the plights before them, the last first -/
def AcAt (M : z_Mem) (A : List PLt) : Prop := ∃ t, t < 14 ∧ M.1 18 1 = nI t ∧ M.1 18 2 = nI A.length ∧ A.length ≤ 14 ∧ ∀ i pl, A[i]? = some pl → PlAt M (20 + 2 * ((t + 13 - i) % 14)) pl
theorem AcAt_sb {ids : List Nat} {M N : z_Mem} {A : List PLt} (h : AcAt M A) (s : Sb ids M N) (hi : ∀ i ∈ ids, i < 18 ∨ 47 < i) : AcAt N A := by
  obtain ⟨t, ht, h1, h2, h3, h4⟩ := h
  have e : ∀ i, 18 ≤ i → i ≤ 47 → i ∉ ids := fun i a b q => by have := hi i q; omega
  refine ⟨t, ht, by rw [s.1 18 (e 18 (by omega) (by omega))]; exact h1, by rw [s.1 18 (e 18 (by omega) (by omega))]; exact h2, h3, fun i pl hp => ?_⟩
  have : (t + 13 - i) % 14 < 14 := Nat.mod_lt _ (by decide)
  exact PlAt_sb (h4 i pl hp) s (e _ (by omega) (by omega)) (e _ (by omega) (by omega))
theorem take14 {A : List PLt} {pl : PLt} (h : A.length ≤ 14) : ((pl :: A).take 14).length = if A.length < 14 then A.length + 1 else 14 := by
  rw [List.length_take, List.length_cons]
  split <;> omega
set_option maxRecDepth 100000 in
set_option maxHeartbeats 400000 in
theorem c_X0_forget {M : z_Mem}  : z_Ct mX0_forget [.ref 18] M none (z_set M 18 2 0) := by
  refine z_entry (by decide +kernel) (Nat.le_of_ble_eq_true rfl) rfl ?_
  show z_Sm mX0_forget _ _ 0 [some (.ref 18)] [] M
  refine z_aload_n (pc := 0) dX0_forget_0 rfl ?_
  refine z_iconst (pc := 1) (v := 0) dX0_forget_1 (by decide) ?_
  refine z_putI (pc := 2) q_fX0_21 q_p0_2 z_s18 rfl dX0_forget_2 ?_
  refine z_vret (pc := 5) rfl dX0_forget_5 ?_
  rfl
def z_ring : List Nat := List.range' 18 30
theorem z_ring_in {t : Nat} (h : t < 14) : 20 + 2 * t ∈ z_ring ∧ 20 + 2 * t + 1 ∈ z_ring := by
  unfold z_ring
  rw [List.mem_range'_1, List.mem_range'_1]
  omega
theorem z_ring_18 : 18 ∈ z_ring := by decide
theorem z_befores {t : Nat} (h : t < 14) : ([20, 22, 24, 26, 28, 30, 32, 34, 36, 38, 40, 42, 44, 46] : List Nat)[t]? = some (20 + 2 * t) := by
  have : ∀ t, t < 14 → ([20, 22, 24, 26, 28, 30, 32, 34, 36, 38, 40, 42, 44, 46] : List Nat)[t]? = some (20 + 2 * t) := by decide +kernel
  exact this t h
set_option maxRecDepth 100000 in
set_option maxHeartbeats 400000 in
theorem c_X0_remember {M : z_Mem} {A : List PLt} {p : PLt} (hA : AcAt M A) (hp : PlAt M 14 p) : ∃ M1, z_Ct mX0_remember [.ref 18, .ref 14] M none M1 ∧ AcAt M1 ((p :: A).take 14) ∧ Sb z_ring M M1 := by
  obtain ⟨t, ht, h1, h2, h3, h4⟩ := hA
  obtain ⟨N, hN, hNp, hNs⟩ := c_X2_become (PL_acts t ht) PL_14 (by omega) (by omega) (by omega) hp
  have e18 : N.1 18 = M.1 18 := hNs.1 18 (by simp; omega)
  have hm : nI t + 1 - (nI t + 1) / 14 * 14 = nI ((t + 1) % 14) := by
    rw [← nI_succ]
    exact pk_rem (d := 14) (by omega) (by decide) (by decide)
  have hl : (if nI A.length + 1 < (14 : Int32) then nI A.length + 1 else 14) = nI ((p :: A).take 14).length := by
    rw [take14 h3, ← nI_succ]
    by_cases q : A.length < 14
    · rw [if_pos q]
      by_cases q2 : A.length + 1 < 14
      · rw [if_pos (show nI (A.length + 1) < (14 : Int32) from nI_lt (b := 14) q2 (by decide))]
      · have : A.length + 1 = 14 := by omega
        rw [this]; rfl
    · rw [if_neg q, if_neg (show ¬ nI (A.length + 1) < (14 : Int32) from nI_nlt (b := 14) (by omega) (by omega))]; rfl
  refine ⟨z_set (z_set N 18 1 (nI ((t + 1) % 14))) 18 2 (nI ((p :: A).take 14).length), ?_, ⟨(t + 1) % 14, Nat.mod_lt _ (by decide), ?_, ?_, by rw [List.length_take]; omega, fun i pl hi => ?_⟩, (hNs.wk (fun i hi => ?_)).tr ((Sb.set _ z_ring_18).tr (Sb.set _ z_ring_18))⟩
  · refine z_entry (by decide +kernel) (Nat.le_of_ble_eq_true rfl) rfl ?_
    show z_Sm mX0_remember _ _ 0 [some (.ref 18), some (.ref 14)] [] M
    refine z_aload_n (pc := 0) dX0_remember_0 rfl ?_
    refine z_getR (pc := 1) 19 q_fX0_11 z_s18 rfl dX0_remember_1 ?_
    refine z_aload_n (pc := 4) dX0_remember_4 rfl ?_
    refine z_getI (pc := 5) q_fX0_17 z_s18 rfl dX0_remember_5 ?_
    refine z_aald (pc := 8) (t) z_s19 ⟨h1, ht, by decide⟩ (z_befores ht) dX0_remember_8 ?_
    refine z_aload_n (pc := 9) dX0_remember_9 rfl ?_
    refine z_cV1v (pc := 10) hN (q_cX0_25 _ (by decide)) (PL_acts t ht).1 rfl rfl dX0_remember_10 ?_
    refine z_aload_n (pc := 13) dX0_remember_13 rfl ?_
    refine z_aload_n (pc := 14) dX0_remember_14 rfl ?_
    refine z_getI (pc := 15) q_fX0_17 z_s18 rfl dX0_remember_15 ?_
    refine z_iconst (pc := 18) (v := 1) dX0_remember_18 (by decide) ?_
    refine z_iadd (pc := 19) dX0_remember_19 ?_
    refine z_bipush (pc := 20) (v := 14) dX0_remember_20 (by decide) ?_
    refine z_irem (pc := 22) dX0_remember_22 (by decide) ?_
    refine z_putI (pc := 23) q_fX0_17 q_p0_1 z_s18 rfl dX0_remember_23 ?_
    refine z_aload_n (pc := 26) dX0_remember_26 rfl ?_
    refine z_bipush (pc := 27) (v := 14) dX0_remember_27 (by decide) ?_
    refine z_aload_n (pc := 29) dX0_remember_29 rfl ?_
    refine z_getI (pc := 30) q_fX0_21 z_s18 rfl dX0_remember_30 ?_
    refine z_iconst (pc := 33) (v := 1) dX0_remember_33 (by decide) ?_
    refine z_iadd (pc := 34) dX0_remember_34 ?_
    refine z_cS2 (pc := 35) c_J9_min_7cf53 (q_cX0_29 _ (by decide)) rfl dX0_remember_35 ?_
    refine z_putI (pc := 38) q_fX0_21 q_p0_2 z_s18 rfl dX0_remember_38 ?_
    refine z_vret (pc := 41) rfl dX0_remember_41 ?_
    rw [e18, h1, hm]
    have e9 : (z_set N 18 1 (nI ((t + 1) % 14))).1 18 2 = nI A.length := by rw [z_set, z_row_1, upd_n _ _ (by decide), e18]; exact h2
    rw [e9, hl]
  · rw [z_set, z_row_1, upd_n _ _ (by decide), z_set, z_row_1, upd_1]
  · rw [z_set, z_row_1, upd_1]
  · have hs2 : Sb [18] N (z_set (z_set N 18 1 (nI ((t + 1) % 14))) 18 2 (nI ((p :: A).take 14).length)) := (Sb.set _ (by simp)).tr (Sb.set _ (by simp))
    have hi14 : i < 14 := by
      have := (List.getElem?_eq_some_iff.mp hi).1
      rw [List.length_take] at this; omega
    rw [List.getElem?_take_of_lt hi14] at hi
    match i, hi with
    | 0, hi =>
      simp at hi
      subst hi
      rw [show ((t + 1) % 14 + 13 - 0) % 14 = t by omega]
      exact PlAt_sb hNp hs2 (by simp; omega) (by simp; omega)
    | i + 1, hi =>
      have hi2 : A[i]? = some pl := by simpa using hi
      have e : ((t + 1) % 14 + 13 - (i + 1)) % 14 = (t + 13 - i) % 14 := by omega
      rw [e]
      have hne : (t + 13 - i) % 14 ≠ t := by omega
      have := h4 i pl hi2
      exact PlAt_sb (PlAt_sb this hNs (by simp; omega) (by simp; omega)) hs2 (by simp; omega) (by simp; omega)
  · have := z_ring_in ht
    simp at hi
    rcases hi with rfl | rfl
    · exact this.1
    · exact this.2
set_option maxRecDepth 100000 in
set_option maxHeartbeats 400000 in
theorem c_X0_takeBack {M : z_Mem} {A : List PLt} {p : PLt} (hA : AcAt M (p :: A)) : ∃ M1, z_Ct mX0_takeBack [.ref 18, .ref 14] M none M1 ∧ AcAt M1 A ∧ PlAt M1 14 p ∧ Sb [14, 15, 18] M M1 := by
  obtain ⟨t, ht, h1, h2, h3, h4⟩ := hA
  have h0 := h4 0 p rfl
  rw [Nat.sub_zero] at h0
  have ht2 : (t + 13) % 14 < 14 := Nat.mod_lt _ (by decide)
  have hm : nI t + 14 - 1 - (nI t + 14 - 1) / 14 * 14 = nI ((t + 13) % 14) := by
    rw [show (14 : Int32) = nI 14 from rfl, show (1 : Int32) = nI 1 from rfl, nI_add, pk_sub (by omega), show t + 14 - 1 = t + 13 by omega]
    exact pk_rem (by omega) (by decide) (by decide)
  have hs1 : Sb [18] M (z_set M 18 1 (nI ((t + 13) % 14))) := Sb.set _ (by simp)
  obtain ⟨N, hN, hNp, hNs⟩ := c_X2_become (q := 14) PL_14 (PL_acts _ ht2) (by omega) (by omega) (by omega) (PlAt_sb h0 hs1 (by simp; omega) (by simp; omega))
  have e18 : N.1 18 = (z_set M 18 1 (nI ((t + 13) % 14))).1 18 := hNs.1 18 (by simp)
  have hs3 : Sb [18] N (z_set N 18 2 (nI A.length)) := Sb.set _ (by simp)
  rw [List.length_cons] at h2 h3
  refine ⟨z_set N 18 2 (nI A.length), ?_, ⟨(t + 13) % 14, ht2, ?_, ?_, by omega, fun i pl hi => ?_⟩, ?_, ((hs1.wk (by simp)).tr (hNs.wk (by simp))).tr (hs3.wk (by simp))⟩
  · refine z_entry (by decide +kernel) (Nat.le_of_ble_eq_true rfl) rfl ?_
    show z_Sm mX0_takeBack _ _ 0 [some (.ref 18), some (.ref 14)] [] M
    refine z_aload_n (pc := 0) dX0_takeBack_0 rfl ?_
    refine z_getI (pc := 1) q_fX0_21 z_s18 rfl dX0_takeBack_1 ?_
    refine z_if_le (pc := 4) (tgt := 46) dX0_takeBack_4 (by decide) (fun h4' => ?_) (fun h4' => ?_)
    · exact absurd h4' (by rw [h2]; exact nI_nle (by omega) (by omega))
    · refine z_aload_n (pc := 7) dX0_takeBack_7 rfl ?_
      refine z_aload_n (pc := 8) dX0_takeBack_8 rfl ?_
      refine z_getI (pc := 9) q_fX0_17 z_s18 rfl dX0_takeBack_9 ?_
      refine z_bipush (pc := 12) (v := 14) dX0_takeBack_12 (by decide) ?_
      refine z_iadd (pc := 14) dX0_takeBack_14 ?_
      refine z_iconst (pc := 15) (v := 1) dX0_takeBack_15 (by decide) ?_
      refine z_isub (pc := 16) dX0_takeBack_16 ?_
      refine z_bipush (pc := 17) (v := 14) dX0_takeBack_17 (by decide) ?_
      refine z_irem (pc := 19) dX0_takeBack_19 (by decide) ?_
      refine z_putI (pc := 20) q_fX0_17 q_p0_1 z_s18 rfl dX0_takeBack_20 ?_
      rw [h1, hm]
      refine z_aload_n (pc := 23) dX0_takeBack_23 rfl ?_
      refine z_aload_n (pc := 24) dX0_takeBack_24 rfl ?_
      refine z_getR (pc := 25) 19 q_fX0_11 z_s18 rfl dX0_takeBack_25 ?_
      refine z_aload_n (pc := 28) dX0_takeBack_28 rfl ?_
      refine z_getI (pc := 29) q_fX0_17 z_s18 rfl dX0_takeBack_29 ?_
      refine z_aald (pc := 32) ((t + 13) % 14) z_s19 ⟨by rw [z_set, z_row_1, upd_1], ht2, by decide⟩ (z_befores ht2) dX0_takeBack_32 ?_
      refine z_cV1v (pc := 33) hN (q_cX0_25 _ (by decide)) z_s14 rfl rfl dX0_takeBack_33 ?_
      refine z_aload_n (pc := 36) dX0_takeBack_36 rfl ?_
      refine z_dup (pc := 37) dX0_takeBack_37 rfl ?_
      refine z_getI (pc := 38) q_fX0_21 z_s18 rfl dX0_takeBack_38 ?_
      refine z_iconst (pc := 41) (v := 1) dX0_takeBack_41 (by decide) ?_
      refine z_isub (pc := 42) dX0_takeBack_42 ?_
      refine z_putI (pc := 43) q_fX0_21 q_p0_2 z_s18 rfl dX0_takeBack_43 ?_
      refine z_vret (pc := 46) rfl dX0_takeBack_46 ?_
      have e9 : N.1 18 2 = nI (A.length + 1) := by rw [e18, z_set, z_row_1, upd_n _ _ (by decide)]; exact h2
      rw [e9, nI_pred]
  · rw [z_set, z_row_1, upd_n _ _ (by decide), e18, z_set, z_row_1, upd_1]
  · rw [z_set, z_row_1, upd_1]
  · have hi2 : (p :: A)[i + 1]? = some pl := by simpa using hi
    have e : ((t + 13) % 14 + 13 - i) % 14 = (t + 13 - (i + 1)) % 14 := by
      have := (List.getElem?_eq_some_iff.mp hi).1
      omega
    rw [e]
    have := h4 (i + 1) pl hi2
    exact PlAt_sb (PlAt_sb (PlAt_sb this hs1 (by simp; omega) (by simp; omega)) hNs (by simp; omega) (by simp; omega)) hs3 (by simp; omega) (by simp; omega)
  · exact PlAt_sb hNp hs3 (by simp) (by simp)
end
section
/-- what was tried: load and whether it gave (1) or not (0), in their order -/
def TrAt (M : z_Mem) (L : List (Int32 × Int32)) : Prop := M.1 54 2 = nI L.length ∧ L.length ≤ 6 ∧ ∀ i q, L[i]? = some q → M.1 55 i = q.1 ∧ M.1 56 i = q.2
theorem TrAt_sb {ids : List Nat} {M N : z_Mem} {L : List (Int32 × Int32)} (h : TrAt M L) (s : Sb ids M N) (h4 : 54 ∉ ids) (h5 : 55 ∉ ids) (h6 : 56 ∉ ids) : TrAt N L := by
  unfold TrAt
  rw [s.1 54 h4, s.1 55 h5, s.1 56 h6]
  exact h
def agQ (held : Int32) (q : Int32 × Int32) : Bool := (if held < q.1 then (1 : Int32) else 0) == q.2
def heldF (kind st : Int32) : Int32 := if kind = 1 then st + 3 else st
set_option maxRecDepth 100000 in
set_option maxHeartbeats 400000 in
theorem c_X5_add {M : z_Mem} {L : List (Int32 × Int32)} (hL : TrAt M L) (hl : L.length < 6) {x y : Int32} (hy : y = 0 ∨ y = 1) : ∃ M1, z_Ct mX5_add [.ref 54, .int x, .int y] M none M1 ∧ TrAt M1 (L ++ [(x, y)]) ∧ Sb [54, 55, 56] M M1 := by
  obtain ⟨h1, h2, h3⟩ := hL
  have hn : vp_nar .boolean y = y := by rcases hy with rfl | rfl <;> decide
  have e5 : (z_set M 55 L.length x).1 54 2 = nI L.length := by rw [z_set, z_row_n _ _ (by decide)]; exact h1
  have e6 : (z_set (z_set M 55 L.length x) 56 L.length y).1 54 2 = nI L.length := by rw [z_set, z_row_n _ _ (by decide)]; exact e5
  refine ⟨z_set (z_set (z_set M 55 L.length x) 56 L.length y) 54 2 (nI (L.length + 1)), ?_, ⟨?_, ?_, fun i q hi => ?_⟩, ((Sb.set _ (by simp)).tr (Sb.set _ (by simp))).tr (Sb.set _ (by simp))⟩
  · refine z_entry (by decide +kernel) (Nat.le_of_ble_eq_true rfl) rfl ?_
    show z_Sm mX5_add _ _ 0 [some (.ref 54), some (.int x), some (.int y)] [] M
    refine z_aload_n (pc := 0) dX5_add_0 rfl ?_
    refine z_getI (pc := 1) q_fX5_19 z_s54 rfl dX5_add_1 ?_
    refine z_if_lt (pc := 4) (tgt := 46) dX5_add_4 (by decide) (fun h4 => ?_) (fun h4 => ?_)
    · exact absurd h4 (by rw [h1]; exact nI_pos (by omega))
    · refine z_aload_n (pc := 7) dX5_add_7 rfl ?_
      refine z_getI (pc := 8) q_fX5_19 z_s54 rfl dX5_add_8 ?_
      refine z_bipush (pc := 11) (v := 6) dX5_add_11 (by decide) ?_
      refine z_icmp_ge (pc := 13) (tgt := 46) dX5_add_13 (by decide) (fun h13 => ?_) (fun h13 => ?_)
      · exact absurd h13 (by rw [h1]; exact nI_ge (b := 6) hl (by decide))
      · refine z_aload_n (pc := 16) dX5_add_16 rfl ?_
        refine z_getR (pc := 17) 55 q_fX5_9 z_s54 rfl dX5_add_17 ?_
        refine z_aload_n (pc := 20) dX5_add_20 rfl ?_
        refine z_getI (pc := 21) q_fX5_19 z_s54 rfl dX5_add_21 ?_
        refine z_iload_n (pc := 24) dX5_add_24 rfl ?_
        refine z_iast (pc := 25) (L.length) z_s55 ⟨h1, hl, by decide⟩ dX5_add_25 ?_
        refine z_aload_n (pc := 26) dX5_add_26 rfl ?_
        refine z_getR (pc := 27) 56 q_fX5_15 z_s54 rfl dX5_add_27 ?_
        refine z_aload_n (pc := 30) dX5_add_30 rfl ?_
        refine z_getI (pc := 31) q_fX5_19 z_s54 rfl dX5_add_31 ?_
        refine z_iload_n (pc := 34) dX5_add_34 rfl ?_
        refine z_zast (pc := 35) (L.length) z_s56 ⟨e5, hl, by decide⟩ hn dX5_add_35 ?_
        refine z_aload_n (pc := 36) dX5_add_36 rfl ?_
        refine z_dup (pc := 37) dX5_add_37 rfl ?_
        refine z_getI (pc := 38) q_fX5_19 z_s54 rfl dX5_add_38 ?_
        refine z_iconst (pc := 41) (v := 1) dX5_add_41 (by decide) ?_
        refine z_iadd (pc := 42) dX5_add_42 ?_
        refine z_putI (pc := 43) q_fX5_19 q_p5_2 z_s54 rfl dX5_add_43 ?_
        refine z_vret (pc := 46) rfl dX5_add_46 ?_
        rw [e6, nI_succ]
  · rw [z_set, z_row_1, upd_1, List.length_append]; rfl
  · rw [List.length_append]; simp; omega
  · have f5 : (z_set (z_set (z_set M 55 L.length x) 56 L.length y) 54 2 (nI (L.length + 1))).1 55 = upd (M.1 55) L.length x := by rw [z_set, z_row_n _ _ (by decide), z_set, z_row_n _ _ (by decide), z_set, z_row_1]
    have f6 : (z_set (z_set (z_set M 55 L.length x) 56 L.length y) 54 2 (nI (L.length + 1))).1 56 = upd (M.1 56) L.length y := by rw [z_set, z_row_n _ _ (by decide), z_set, z_row_1, z_set, z_row_n _ _ (by decide)]
    rw [f5, f6]
    by_cases e : i < L.length
    · rw [List.getElem?_append_left e] at hi
      rw [upd_n _ _ (by omega), upd_n _ _ (by omega)]
      exact h3 i q hi
    · rw [List.getElem?_append_right (by omega)] at hi
      have hz := (List.getElem?_eq_some_iff.mp hi).1
      simp at hz
      have : i = L.length := by omega
      subst this
      rw [Nat.sub_self] at hi
      simp at hi
      subst hi
      exact ⟨upd_1 _ _ _, upd_1 _ _ _⟩
set_option maxRecDepth 100000 in
set_option maxHeartbeats 400000 in
theorem s_X5_agreeWith_16 {M : z_Mem} {L : List (Int32 × Int32)} (hL : TrAt M L) {x y z : Int32} (j : Nat) (hj : j ≤ L.length) (ij : Int32) (h2 : ij = nI j) (hp : (L.take j).all (agQ z) = true) : z_Sm mX5_agreeWith (some (.int (if L.all (agQ z) then 1 else 0))) M 16 [some (.ref 54), some (.int x), some (.int y), some (.int z), some (.int ij)] [] M := by
  have hl6 := hL.2.1
  refine z_iload (pc := 16) dX5_agreeWith_16 rfl ?_
  refine z_aload_n (pc := 18) dX5_agreeWith_18 rfl ?_
  refine z_getI (pc := 19) q_fX5_19 z_s54 rfl dX5_agreeWith_19 ?_
  refine z_icmp_ge (pc := 22) (tgt := 59) dX5_agreeWith_22 (by decide) (fun h22 => ?_) (fun h22 => ?_)
  · have hN : L.length ≤ j := z_ge h22 h2 hL.1 (by omega) (by omega)
    have e : L.take j = L := List.take_of_length_le hN
    rw [e] at hp
    refine z_iconst (pc := 59) (v := 1) dX5_agreeWith_59 (by decide) ?_
    refine z_zret (pc := 60) rfl dX5_agreeWith_60 ?_ ?_ ?_
    · rfl
    · rw [hp]; rfl
    · rfl
  · have hlt : j < L.length := z_lt h22 h2 hL.1 (by omega) (by omega)
    have hget : L[j]? = some L[j] := List.getElem?_eq_getElem hlt
    obtain ⟨ha, hb⟩ := hL.2.2 j _ hget
    have htk : L.take (j + 1) = L.take j ++ [L[j]] := (List.take_append_getElem hlt).symm
    refine z_aload_n (pc := 25) dX5_agreeWith_25 rfl ?_
    refine z_getR (pc := 26) 55 q_fX5_9 z_s54 rfl dX5_agreeWith_26 ?_
    refine z_iload (pc := 29) dX5_agreeWith_29 rfl ?_
    refine z_iald (pc := 31) (j) z_s55 ⟨h2, by omega, by decide⟩ dX5_agreeWith_31 ?_
    refine z_iload_n (pc := 32) dX5_agreeWith_32 rfl ?_
    refine z_icmp_le (pc := 33) (tgt := 40) dX5_agreeWith_33 (by decide) (fun h33 => ?_) (fun h33 => ?_)
    · refine z_iconst (pc := 40) (v := 0) dX5_agreeWith_40 (by decide) ?_
      refine z_aload_n (pc := 41) dX5_agreeWith_41 rfl ?_
      refine z_getR (pc := 42) 56 q_fX5_15 z_s54 rfl dX5_agreeWith_42 ?_
      refine z_iload (pc := 45) dX5_agreeWith_45 rfl ?_
      refine z_zald (pc := 47) (j) z_s56 ⟨h2, by omega, by decide⟩ dX5_agreeWith_47 ?_
      refine z_icmp_eq (pc := 48) (tgt := 53) dX5_agreeWith_48 (by decide) (fun h48 => ?_) (fun h48 => ?_)
      · refine z_iinc (pc := 53) dX5_agreeWith_53 rfl rfl rfl (by decide) ?_
        refine z_goto (pc := 56) (tgt := 16) dX5_agreeWith_56 (by decide) ?_
        refine s_X5_agreeWith_16 hL (j + 1) hlt _ (z_n1 h2) ?_
        rw [htk, List.all_append, hp]
        rw [ha] at h33
        rw [hb] at h48
        simp only [agQ, List.all_cons, List.all_nil, if_neg (Int32.not_lt.mpr h33), Bool.true_and, Bool.and_true, beq_iff_eq]
        exact h48
      · refine z_iconst (pc := 51) (v := 0) dX5_agreeWith_51 (by decide) ?_
        refine z_zret (pc := 52) rfl dX5_agreeWith_52 ?_ ?_ ?_
        · rfl
        · have hf : agQ z L[j] = false := by
            rw [ha] at h33
            rw [hb] at h48
            simp only [agQ, if_neg (Int32.not_lt.mpr h33), beq_eq_false_iff_ne]
            exact h48
          rw [show L.all (agQ z) = false from List.all_eq_false.mpr ⟨L[j], List.getElem_mem hlt, by rw [hf]; decide⟩]; rfl
        · rfl
    · refine z_iconst (pc := 36) (v := 1) dX5_agreeWith_36 (by decide) ?_
      refine z_goto (pc := 37) (tgt := 41) dX5_agreeWith_37 (by decide) ?_
      refine z_aload_n (pc := 41) dX5_agreeWith_41 rfl ?_
      refine z_getR (pc := 42) 56 q_fX5_15 z_s54 rfl dX5_agreeWith_42 ?_
      refine z_iload (pc := 45) dX5_agreeWith_45 rfl ?_
      refine z_zald (pc := 47) (j) z_s56 ⟨h2, by omega, by decide⟩ dX5_agreeWith_47 ?_
      refine z_icmp_eq (pc := 48) (tgt := 53) dX5_agreeWith_48 (by decide) (fun h48 => ?_) (fun h48 => ?_)
      · refine z_iinc (pc := 53) dX5_agreeWith_53 rfl rfl rfl (by decide) ?_
        refine z_goto (pc := 56) (tgt := 16) dX5_agreeWith_56 (by decide) ?_
        refine s_X5_agreeWith_16 hL (j + 1) hlt _ (z_n1 h2) ?_
        rw [htk, List.all_append, hp]
        rw [ha] at h33
        rw [hb] at h48
        simp only [agQ, List.all_cons, List.all_nil, if_pos (Int32.not_le.mp h33), Bool.true_and, Bool.and_true, beq_iff_eq]
        exact h48
      · refine z_iconst (pc := 51) (v := 0) dX5_agreeWith_51 (by decide) ?_
        refine z_zret (pc := 52) rfl dX5_agreeWith_52 ?_ ?_ ?_
        · rfl
        · have hf : agQ z L[j] = false := by
            rw [ha] at h33
            rw [hb] at h48
            simp only [agQ, if_pos (Int32.not_le.mp h33), beq_eq_false_iff_ne]
            exact h48
          rw [show L.all (agQ z) = false from List.all_eq_false.mpr ⟨L[j], List.getElem_mem hlt, by rw [hf]; decide⟩]; rfl
        · rfl
termination_by L.length - j
decreasing_by all_goals omega
set_option maxRecDepth 100000 in
set_option maxHeartbeats 400000 in
theorem c_X5_agreeWith {M : z_Mem} {L : List (Int32 × Int32)} (hL : TrAt M L) {x y : Int32} : z_Ct mX5_agreeWith [.ref 54, .int x, .int y] M (some (.int (if L.all (agQ (heldF x y)) then 1 else 0))) M := by
  refine z_entry (by decide +kernel) (Nat.le_of_ble_eq_true rfl) rfl ?_
  show z_Sm mX5_agreeWith _ _ 0 [some (.ref 54), some (.int x), some (.int y), none, none] [] M
  refine z_iload_n (pc := 0) dX5_agreeWith_0 rfl ?_
  refine z_iconst (pc := 1) (v := 1) dX5_agreeWith_1 (by decide) ?_
  refine z_icmp_ne (pc := 2) (tgt := 11) dX5_agreeWith_2 (by decide) (fun h2 => ?_) (fun h2 => ?_)
  · refine z_iload_n (pc := 11) dX5_agreeWith_11 rfl ?_
    refine z_istore_n (pc := 12) dX5_agreeWith_12 rfl (by decide) ?_
    refine z_iconst (pc := 13) (v := 0) dX5_agreeWith_13 (by decide) ?_
    refine z_istore (pc := 14) dX5_agreeWith_14 rfl (by decide) ?_
    have e : heldF x y = y := if_neg h2
    rw [e]
    exact s_X5_agreeWith_16 hL 0 (Nat.zero_le _) _ rfl rfl
  · refine z_iload_n (pc := 5) dX5_agreeWith_5 rfl ?_
    refine z_iconst (pc := 6) (v := 3) dX5_agreeWith_6 (by decide) ?_
    refine z_iadd (pc := 7) dX5_agreeWith_7 ?_
    refine z_goto (pc := 8) (tgt := 12) dX5_agreeWith_8 (by decide) ?_
    refine z_istore_n (pc := 12) dX5_agreeWith_12 rfl (by decide) ?_
    refine z_iconst (pc := 13) (v := 0) dX5_agreeWith_13 (by decide) ?_
    refine z_istore (pc := 14) dX5_agreeWith_14 rfl (by decide) ?_
    have e : heldF x y = y + 3 := if_pos (by simpa using h2)
    rw [e]
    exact s_X5_agreeWith_16 hL 0 (Nat.zero_le _) _ rfl rfl
theorem rIn_mono {o : Int32} {a b : Nat → Nat} {x : Int32} {k : Nat} (h : bt x k = true) : ∀ n, bt (rIn o a b n x) k = true
  | 0 => h
  | n + 1 => by
    have := rIn_mono (o := o) (a := a) (b := b) h n
    unfold rIn
    split
    · rw [b_or, this]; rfl
    · exact this
theorem rOut_mono {o : Int32} {a b : Nat → Nat} {P : Nat} {x : Int32} {k : Nat} (h : bt x k = true) : ∀ n, bt (rOut o a b P n x) k = true
  | 0 => h
  | n + 1 => rIn_mono (rOut_mono h n) P
theorem rIn_lo {o : Int32} {a b : Nat → Nat} {x : Int32} (hx : ∀ k, 6 ≤ k → k < 32 → bt x k = false) : ∀ n, (∀ k, k < n → a k < 6 ∧ b k < 6) → ∀ k, 6 ≤ k → k < 32 → bt (rIn o a b n x) k = false
  | 0, _ => hx
  | n + 1, hab => by
    have ih := rIn_lo (o := o) hx n (fun k hk => hab k (by omega))
    obtain ⟨h1, h2⟩ := hab n (by omega)
    intro k hk hk2
    unfold rIn
    split
    · rw [b_or, b_or, ih k hk hk2, em_bt (by omega) hk2, em_bt (by omega) hk2]
      simp; omega
    · exact ih k hk hk2
theorem rOut_lo {o : Int32} {a b : Nat → Nat} {P t : Nat} (ht : t < 6) (hab : ∀ k, k < P → a k < 6 ∧ b k < 6) : ∀ n k, 6 ≤ k → k < 32 → bt (rOut o a b P n (em t)) k = false
  | 0 => fun k hk hk2 => by rw [rOut, em_bt (by omega) hk2]; simp; omega
  | n + 1 => rIn_lo (rOut_lo ht hab n) P hab
theorem rOut_sm {o : Int32} {a b : Nat → Nat} {P t n : Nat} (ht : t < 6) (hab : ∀ k, k < P → a k < 6 ∧ b k < 6) : sm7 (rOut o a b P n (em t)) := fun k h1 h2 => rOut_lo ht hab n k (by omega) h2
theorem TW.ab {M : z_Mem} {P : Nat} {a b : Nat → Nat} (h : TW M P a b) : ∀ k, k < P → a k < 6 ∧ b k < 6 := fun k hk => (h.2.2 k hk).2.2
theorem pc_pos {x : Int32} {k : Nat} (h : bt x k = true) : ∀ n, k < n → 1 ≤ pc n x
  | 0, q => absurd q (Nat.not_lt_zero k)
  | n + 1, q => by
    show 1 ≤ pc n x + (bt x n).toNat
    by_cases e : k = n
    · subst e; rw [h]; simp
    · have := pc_pos h n (by omega)
      omega
/-- the pairs of things that are together, each met from both sides -/
def prN (o : Int32) (a b : Nat → Nat) (P : Nat) : Nat → Nat
  | 0 => 0
  | n + 1 => prN o a b P n + (pc 7 (rOut o a b P 5 (em n)) - 1)
theorem prN_le (o : Int32) (a b : Nat → Nat) (P : Nat) : ∀ n, prN o a b P n ≤ 7 * n
  | 0 => Nat.le_refl 0
  | n + 1 => by
    have := prN_le o a b P n
    have := pc_le (rOut o a b P 5 (em n)) 7
    show prN o a b P n + (pc 7 (rOut o a b P 5 (em n)) - 1) ≤ 7 * (n + 1)
    omega
set_option maxRecDepth 100000 in
set_option maxHeartbeats 400000 in
theorem s_X4_pairsTogether_4 {M M2 : z_Mem} {r : Option Value} {P : Nat} {a b : Nat → Nat} (hT : TW M P a b) {o : Int32} (kk : z_Sm mX4_pairsTogether r M2 30 [some (.ref 3), some (.int o), some (.int (nI (prN o a b P (6)))), none] [] (M)) (j : Nat) (hj : j ≤ 6) (ij : Int32) (v : Int32) (h2 : ij = nI j) (hv_v : v = nI (prN o a b P j)) : z_Sm mX4_pairsTogether r M2 4 [some (.ref 3), some (.int o), some (.int v), some (.int ij)] [] M := by
  refine z_iload_n (pc := 4) dX4_pairsTogether_4 rfl ?_
  refine z_bipush (pc := 5) (v := 6) dX4_pairsTogether_5 (by decide) ?_
  refine z_icmp_ge (pc := 7) (tgt := 30) dX4_pairsTogether_7 (by decide) (fun h7 => ?_) (fun h7 => ?_)
  · have hNj : 6 ≤ j := by
      have := z_ge h7 h2 (show (6 : Int32) = nI 6 from rfl) (by omega) (by omega)
      omega
    obtain rfl : j = 6 := by omega
    subst hv_v
    exact z_drop 3 kk
  · have hlt : j < 6 := by
      have := z_lt h7 h2 (show (6 : Int32) = nI 6 from rfl) (by omega) (by omega)
      omega
    refine z_iload_n (pc := 10) dX4_pairsTogether_10 rfl ?_
    refine z_aload_n (pc := 11) dX4_pairsTogether_11 rfl ?_
    refine z_iload_n (pc := 12) dX4_pairsTogether_12 rfl ?_
    refine z_iload_n (pc := 13) dX4_pairsTogether_13 rfl ?_
    refine z_cV2 (pc := 14) (c_X4_reach hT h2) (q_cX4_71 _ (by decide)) z_s3 rfl rfl dX4_pairsTogether_14 ?_
    refine z_cS1 (pc := 17) (c_J6_bitCount_0f7a4 (rOut_sm hlt hT.ab)) (q_cX4_74 _ (by decide)) rfl dX4_pairsTogether_17 ?_
    refine z_iconst (pc := 20) (v := 1) dX4_pairsTogether_20 (by decide) ?_
    refine z_isub (pc := 21) dX4_pairsTogether_21 ?_
    refine z_iadd (pc := 22) dX4_pairsTogether_22 ?_
    refine z_istore_n (pc := 23) dX4_pairsTogether_23 rfl (by decide) ?_
    refine z_iinc (pc := 24) dX4_pairsTogether_24 rfl rfl rfl (by decide) ?_
    refine z_goto (pc := 27) (tgt := 4) dX4_pairsTogether_27 (by decide) ?_
    exact s_X4_pairsTogether_4 hT kk (j + 1) hlt _ _ (z_n1 h2) (by have h1 := pc_pos (rOut_mono (o := o) (a := a) (b := b) (P := P) (show bt (em j) j = true by rw [em_bt (by omega) (by omega)]; simp) 5) 7 (by omega); rw [hv_v, prN, show (1 : Int32) = nI 1 from rfl, pk_sub h1, nI_add])
termination_by 6 - j
decreasing_by all_goals omega
set_option maxRecDepth 100000 in
set_option maxHeartbeats 400000 in
theorem c_X4_pairsTogether {M : z_Mem} {P : Nat} {a b : Nat → Nat} (hT : TW M P a b) {o : Int32} : z_Ct mX4_pairsTogether [.ref 3, .int o] M (some (.int (nI (prN o a b P 6 / 2)))) M := by
  refine z_entry (by decide +kernel) (Nat.le_of_ble_eq_true rfl) rfl ?_
  show z_Sm mX4_pairsTogether _ _ 0 [some (.ref 3), some (.int o), none, none] [] M
  refine z_iconst (pc := 0) (v := 0) dX4_pairsTogether_0 (by decide) ?_
  refine z_istore_n (pc := 1) dX4_pairsTogether_1 rfl (by decide) ?_
  refine z_iconst (pc := 2) (v := 0) dX4_pairsTogether_2 (by decide) ?_
  refine z_istore_n (pc := 3) dX4_pairsTogether_3 rfl (by decide) ?_
  refine s_X4_pairsTogether_4 hT ?_ 0 (by omega) _ _ rfl rfl
  refine z_iload_n (pc := 30) dX4_pairsTogether_30 rfl ?_
  refine z_iconst (pc := 31) (v := 2) dX4_pairsTogether_31 (by decide) ?_
  refine z_idiv (pc := 32) dX4_pairsTogether_32 (by decide) ?_
  refine z_iret (pc := 33) rfl dX4_pairsTogether_33 ?_ ?_
  · exact pk_div (d := 2) (by have := prN_le o a b P 6; omega) (by decide) (by decide)
  · rfl
/-- deeds: how many, the two things of each -/
abbrev DT : Type := Nat × (Nat → Nat) × (Nat → Nat)
def DK (M : z_Mem) (D : DT) : Prop := M.1 3 8 = nI D.1 ∧ D.1 ≤ 3 ∧ ∀ k, k < D.1 → M.1 10 k = nI (D.2.1 k) ∧ M.1 11 k = nI (D.2.2 k) ∧ D.2.1 k < 6 ∧ D.2.2 k < 6
theorem DK_sb {ids : List Nat} {M N : z_Mem} {D : DT} (h : DK M D) (s : Sb ids M N) (h3 : 3 ∉ ids) (h8 : 10 ∉ ids) (h9 : 11 ∉ ids) : DK N D := by
  unfold DK
  rw [s.1 3 h3, s.1 10 h8, s.1 11 h9]
  exact h
def dbF (o : Int32) (a b : Nat → Nat) (P : Nat) (D : DT) : Nat → Int32
  | 0 => 0
  | n + 1 => if tog o a b P (D.2.1 n) (D.2.2 n) = true then dbF o a b P D n else dbF o a b P D n ||| em n
set_option maxRecDepth 100000 in
set_option maxHeartbeats 400000 in
theorem s_X4_doable_4 {M M2 : z_Mem} {r : Option Value} {P : Nat} {a b : Nat → Nat} (hT : TW M P a b) {D : DT} (hD : DK M D) {o : Int32} (kk : z_Sm mX4_doable r M2 44 [some (.ref 3), some (.int o), some (.int (dbF o a b P D (D.1))), none] [] (M)) (j : Nat) (hj : j ≤ D.1) (ij : Int32) (v : Int32) (h2 : ij = nI j) (hv_v : v = dbF o a b P D j) : z_Sm mX4_doable r M2 4 [some (.ref 3), some (.int o), some (.int v), some (.int ij)] [] M := by
  have hD3 := hD.2.1
  refine z_iload_n (pc := 4) dX4_doable_4 rfl ?_
  refine z_aload_n (pc := 5) dX4_doable_5 rfl ?_
  refine z_getI (pc := 6) q_fX4_37 z_s3 rfl dX4_doable_6 ?_
  refine z_icmp_ge (pc := 9) (tgt := 44) dX4_doable_9 (by decide) (fun h9 => ?_) (fun h9 => ?_)
  · have hNj : D.1 ≤ j := by
      have := z_ge h9 h2 hD.1 (by omega) (by omega)
      omega
    obtain rfl : j = D.1 := by omega
    subst hv_v
    exact z_drop 3 kk
  · have hlt : j < D.1 := by
      have := z_lt h9 h2 hD.1 (by omega) (by omega)
      omega
    obtain ⟨hx, hy, hx6, hy6⟩ := hD.2.2 j hlt
    refine z_aload_n (pc := 12) dX4_doable_12 rfl ?_
    refine z_aload_n (pc := 13) dX4_doable_13 rfl ?_
    refine z_getR (pc := 14) 10 q_fX4_40 z_s3 rfl dX4_doable_14 ?_
    refine z_iload_n (pc := 17) dX4_doable_17 rfl ?_
    refine z_iald (pc := 18) (j) z_s10 ⟨h2, by omega, by decide⟩ dX4_doable_18 ?_
    refine z_aload_n (pc := 19) dX4_doable_19 rfl ?_
    refine z_getR (pc := 20) 11 q_fX4_43 z_s3 rfl dX4_doable_20 ?_
    refine z_iload_n (pc := 23) dX4_doable_23 rfl ?_
    refine z_iald (pc := 24) (j) z_s11 ⟨h2, by omega, by decide⟩ dX4_doable_24 ?_
    refine z_iload_n (pc := 25) dX4_doable_25 rfl ?_
    refine z_cV3 (pc := 26) (c_X4_areTogether hT hx hy hy6) (q_cX4_79 _ (by decide)) z_s3 rfl rfl dX4_doable_26 ?_
    refine z_if_ne (pc := 29) (tgt := 38) dX4_doable_29 (by decide) (fun h29 => ?_) (fun h29 => ?_)
    · refine z_iinc (pc := 38) dX4_doable_38 rfl rfl rfl (by decide) ?_
      refine z_goto (pc := 41) (tgt := 4) dX4_doable_41 (by decide) ?_
      have hb : tog o a b P (D.2.1 j) (D.2.2 j) = true := by
        cases q : tog o a b P (D.2.1 j) (D.2.2 j)
        · rw [q] at h29; exact absurd rfl h29
        · rfl
      exact s_X4_doable_4 hT hD kk (j + 1) hlt _ _ (z_n1 h2) (by rw [hv_v, dbF, if_pos hb])
    · refine z_iload_n (pc := 32) dX4_doable_32 rfl ?_
      refine z_iconst (pc := 33) (v := 1) dX4_doable_33 (by decide) ?_
      refine z_iload_n (pc := 34) dX4_doable_34 rfl ?_
      refine z_ishl (pc := 35) dX4_doable_35 ?_
      refine z_ior (pc := 36) dX4_doable_36 ?_
      refine z_istore_n (pc := 37) dX4_doable_37 rfl (by decide) ?_
      refine z_iinc (pc := 38) dX4_doable_38 rfl rfl rfl (by decide) ?_
      refine z_goto (pc := 41) (tgt := 4) dX4_doable_41 (by decide) ?_
      have hb : ¬ tog o a b P (D.2.1 j) (D.2.2 j) = true := by
        intro q
        rw [q] at h29; exact absurd h29 (by decide)
      exact s_X4_doable_4 hT hD kk (j + 1) hlt _ _ (z_n1 h2) (by rw [hv_v, dbF, if_neg hb, h2]; rfl)
termination_by D.1 - j
decreasing_by all_goals omega
set_option maxRecDepth 100000 in
set_option maxHeartbeats 400000 in
theorem c_X4_doable {M : z_Mem} {P : Nat} {a b : Nat → Nat} (hT : TW M P a b) {D : DT} (hD : DK M D) {o : Int32} : z_Ct mX4_doable [.ref 3, .int o] M (some (.int (dbF o a b P D D.1))) M := by
  refine z_entry (by decide +kernel) (Nat.le_of_ble_eq_true rfl) rfl ?_
  show z_Sm mX4_doable _ _ 0 [some (.ref 3), some (.int o), none, none] [] M
  refine z_iconst (pc := 0) (v := 0) dX4_doable_0 (by decide) ?_
  refine z_istore_n (pc := 1) dX4_doable_1 rfl (by decide) ?_
  refine z_iconst (pc := 2) (v := 0) dX4_doable_2 (by decide) ?_
  refine z_istore_n (pc := 3) dX4_doable_3 rfl (by decide) ?_
  refine s_X4_doable_4 hT hD ?_ 0 (Nat.zero_le _) _ _ rfl rfl
  refine z_iload_n (pc := 44) dX4_doable_44 rfl ?_
  refine z_iret (pc := 45) rfl dX4_doable_45 ?_ ?_
  · rfl
  · rfl
end
section
/-! ===== the text: letters l, n of them ===== -/
def ScAt (M : z_Mem) (l : Nat → Int32) (n : Nat) : Prop := M.1 1 1 = nI n ∧ n ≤ 60 ∧ ∀ i, i < n → M.1 2 i = l i
theorem ScAt_sb {ids : List Nat} {M N : z_Mem} {l : Nat → Int32} {n : Nat} (h : ScAt M l n) (s : Sb ids M N) (h1 : 1 ∉ ids) (h2 : 2 ∉ ids) : ScAt N l n := by
  unfold ScAt
  rw [s.1 1 h1, s.1 2 h2]
  exact h
/-- the figure at a place, -1 where there is none -/
def fg (l : Nat → Int32) (n p : Nat) : Int32 := if n ≤ p then -1 else if l p < 48 then -1 else if 57 < l p then -1 else l p - 48
def sz (c : Int32) : Nat := if c = 78 then 5 else if c = 87 then 3 else if c = 68 then 3 else 0
def mo (c : Int32) : Nat := if c = 78 then 7 else if c = 87 then 4 else 3
/-- how many letters c stand in places 1 .. p - 1 -/
def cN (l : Nat → Int32) (c : Int32) : Nat → Nat
  | 0 => 0
  | p + 1 => cN l c p + (if 1 ≤ p ∧ l p = c then 1 else 0)
theorem cN_le (l : Nat → Int32) (c : Int32) : ∀ p, cN l c p ≤ p
  | 0 => Nat.le_refl 0
  | p + 1 => by
    have := cN_le l c p
    unfold cN
    split <;> omega
theorem cN_no {l : Nat → Int32} {c : Int32} {p : Nat} (h : ¬ l p = c) : cN l c (p + 1) = cN l c p := by rw [cN, if_neg (fun q => h q.2), Nat.add_zero]
theorem cN_yes {l : Nat → Int32} {c : Int32} {p : Nat} (h1 : 1 ≤ p) (h : l p = c) : cN l c (p + 1) = cN l c p + 1 := by rw [cN, if_pos ⟨h1, h⟩]
def okB (l : Nat → Int32) (p : Nat) : Bool := if sz (l p) = 0 then false else decide (cN l (l p) p < mo (l p))
def okG (l : Nat → Int32) (n s p : Nat) : Bool :=
  if fg l n p < 0 then false
  else if p = s + 1 then decide (fg l n p < 6)
  else if p = s + 2 then (if l s = 87 then true else if fg l n p < 6 then decide (¬ fg l n p = fg l n (s + 1)) else false)
  else if p = s + 3 then true
  else decide (fg l n p ≤ 3)
def scn (l : Nat → Int32) (n : Nat) : Nat → Nat → Nat → Int32
  | 0, _, s => if s = n then -9 else nI n
  | f + 1, p, s => if (if p = s then okB l p else okG l n s p) = false then nI p else if p - s + 1 = sz (l s) then scn l n f (p + 1) (p + 1) else scn l n f (p + 1) s
def faF (l : Nat → Int32) (n : Nat) : Int32 := if n = 0 then 0 else if l 0 = 83 then scn l n (n - 1) 1 1 else 0
set_option maxRecDepth 100000 in
set_option maxHeartbeats 400000 in
theorem c_X3_add {M : z_Mem} {l : Nat → Int32} {n : Nat} (hS : ScAt M l n) (hn : n < 60) {x : Int32} : ∃ M1, z_Ct mX3_add [.ref 1, .int x] M none M1 ∧ ScAt M1 (upd l n x) (n + 1) ∧ Sb [1, 2] M M1 := by
  obtain ⟨h1, h2, h3⟩ := hS
  have e5 : (z_set M 2 n x).1 1 1 = nI n := by rw [z_set, z_row_n _ _ (by decide)]; exact h1
  refine ⟨z_set (z_set M 2 n x) 1 1 (nI (n + 1)), ?_, ⟨?_, by omega, fun i hi => ?_⟩, (Sb.set _ (by simp)).tr (Sb.set _ (by simp))⟩
  · refine z_entry (by decide +kernel) (Nat.le_of_ble_eq_true rfl) rfl ?_
    show z_Sm mX3_add _ _ 0 [some (.ref 1), some (.int x)] [] M
    refine z_aload_n (pc := 0) dX3_add_0 rfl ?_
    refine z_getI (pc := 1) q_fX3_15 z_s1 rfl dX3_add_1 ?_
    refine z_if_lt (pc := 4) (tgt := 36) dX3_add_4 (by decide) (fun h4 => ?_) (fun h4 => ?_)
    · exact absurd h4 (by rw [h1]; exact nI_pos (by omega))
    · refine z_aload_n (pc := 7) dX3_add_7 rfl ?_
      refine z_getI (pc := 8) q_fX3_15 z_s1 rfl dX3_add_8 ?_
      refine z_bipush (pc := 11) (v := 60) dX3_add_11 (by decide) ?_
      refine z_icmp_ge (pc := 13) (tgt := 36) dX3_add_13 (by decide) (fun h13 => ?_) (fun h13 => ?_)
      · exact absurd h13 (by rw [h1]; exact nI_ge (b := 60) hn (by decide))
      · refine z_aload_n (pc := 16) dX3_add_16 rfl ?_
        refine z_getR (pc := 17) 2 q_fX3_9 z_s1 rfl dX3_add_17 ?_
        refine z_aload_n (pc := 20) dX3_add_20 rfl ?_
        refine z_getI (pc := 21) q_fX3_15 z_s1 rfl dX3_add_21 ?_
        refine z_iload_n (pc := 24) dX3_add_24 rfl ?_
        refine z_iast (pc := 25) (n) z_s2 ⟨h1, hn, by decide⟩ dX3_add_25 ?_
        refine z_aload_n (pc := 26) dX3_add_26 rfl ?_
        refine z_dup (pc := 27) dX3_add_27 rfl ?_
        refine z_getI (pc := 28) q_fX3_15 z_s1 rfl dX3_add_28 ?_
        refine z_iconst (pc := 31) (v := 1) dX3_add_31 (by decide) ?_
        refine z_iadd (pc := 32) dX3_add_32 ?_
        refine z_putI (pc := 33) q_fX3_15 q_p3_1 z_s1 rfl dX3_add_33 ?_
        refine z_vret (pc := 36) rfl dX3_add_36 ?_
        rw [e5, nI_succ]
  · rw [z_set, z_row_1, upd_1]
  · rw [z_set, z_row_n _ _ (by decide), z_set, z_row_1]
    show (if i = n then x else M.1 2 i) = if i = n then x else l i
    split
    · rfl
    · exact h3 i (by omega)
set_option maxRecDepth 100000 in
set_option maxHeartbeats 400000 in
theorem c_X3_figure {M : z_Mem} {l : Nat → Int32} {n : Nat} (hS : ScAt M l n) {x : Int32} {p : Nat} (hx : x = nI p) (hp : p < 2 ^ 20) : z_Ct mX3_figure [.ref 1, .int x] M (some (.int (fg l n p))) M := by
  obtain ⟨g1, g2, g3⟩ := hS
  refine z_entry (by decide +kernel) (Nat.le_of_ble_eq_true rfl) rfl ?_
  show z_Sm mX3_figure _ _ 0 [some (.ref 1), some (.int x), none] [] M
  refine z_iload_n (pc := 0) dX3_figure_0 rfl ?_
  refine z_if_lt (pc := 1) (tgt := 12) dX3_figure_1 (by decide) (fun h1 => ?_) (fun h1 => ?_)
  · exact absurd h1 (by rw [hx]; exact nI_pos (by omega))
  · refine z_iload_n (pc := 4) dX3_figure_4 rfl ?_
    refine z_aload_n (pc := 5) dX3_figure_5 rfl ?_
    refine z_getI (pc := 6) q_fX3_15 z_s1 rfl dX3_figure_6 ?_
    refine z_icmp_lt (pc := 9) (tgt := 14) dX3_figure_9 (by decide) (fun h9 => ?_) (fun h9 => ?_)
    · have hlt : p < n := by rw [hx, g1] at h9; exact (nI_ltI (by omega) (by omega)).mp h9
      refine z_aload_n (pc := 14) dX3_figure_14 rfl ?_
      refine z_getR (pc := 15) 2 q_fX3_9 z_s1 rfl dX3_figure_15 ?_
      refine z_iload_n (pc := 18) dX3_figure_18 rfl ?_
      refine z_iald (pc := 19) (p) z_s2 ⟨hx, by omega, by decide⟩ dX3_figure_19 ?_
      refine z_istore_n (pc := 20) dX3_figure_20 rfl (by decide) ?_
      refine z_iload_n (pc := 21) dX3_figure_21 rfl ?_
      refine z_bipush (pc := 22) (v := 48) dX3_figure_22 (by decide) ?_
      refine z_icmp_lt (pc := 24) (tgt := 40) dX3_figure_24 (by decide) (fun h24 => ?_) (fun h24 => ?_)
      · refine z_iconst (pc := 40) (v := (-1)) dX3_figure_40 (by decide) ?_
        refine z_iret (pc := 41) rfl dX3_figure_41 ?_ ?_
        · rw [g3 p hlt] at h24
          rw [fg, if_neg (by omega), if_pos h24]
        · rfl
      · refine z_iload_n (pc := 27) dX3_figure_27 rfl ?_
        refine z_bipush (pc := 28) (v := 57) dX3_figure_28 (by decide) ?_
        refine z_icmp_gt (pc := 30) (tgt := 40) dX3_figure_30 (by decide) (fun h30 => ?_) (fun h30 => ?_)
        · refine z_iconst (pc := 40) (v := (-1)) dX3_figure_40 (by decide) ?_
          refine z_iret (pc := 41) rfl dX3_figure_41 ?_ ?_
          · rw [g3 p hlt] at h24 h30
            rw [fg, if_neg (by omega), if_neg h24, if_pos h30]
          · rfl
        · refine z_iload_n (pc := 33) dX3_figure_33 rfl ?_
          refine z_bipush (pc := 34) (v := 48) dX3_figure_34 (by decide) ?_
          refine z_isub (pc := 36) dX3_figure_36 ?_
          refine z_goto (pc := 37) (tgt := 41) dX3_figure_37 (by decide) ?_
          refine z_iret (pc := 41) rfl dX3_figure_41 ?_ ?_
          · rw [g3 p hlt] at h24 h30
            rw [fg, if_neg (by omega), if_neg h24, if_neg h30, g3 p hlt]
          · rfl
    · refine z_iconst (pc := 12) (v := (-1)) dX3_figure_12 (by decide) ?_
      refine z_iret (pc := 13) rfl dX3_figure_13 ?_ ?_
      · have hp : n ≤ p := Nat.le_of_not_lt (fun q => h9 (by rw [hx, g1]; exact nI_lt q (by omega)))
        rw [fg, if_pos hp]
      · rfl
set_option maxRecDepth 100000 in
set_option maxHeartbeats 400000 in
theorem c_X3_sizeOfPart {M : z_Mem} {x : Int32} : z_Ct mX3_sizeOfPart [.int x] M (some (.int (nI (sz x)))) M := by
  refine z_entry (by decide +kernel) (Nat.le_of_ble_eq_true rfl) rfl ?_
  show z_Sm mX3_sizeOfPart _ _ 0 [some (.int x)] [] M
  refine z_iload_n (pc := 0) dX3_sizeOfPart_0 rfl ?_
  refine z_bipush (pc := 1) (v := 78) dX3_sizeOfPart_1 (by decide) ?_
  refine z_icmp_ne (pc := 3) (tgt := 8) dX3_sizeOfPart_3 (by decide) (fun h3 => ?_) (fun h3 => ?_)
  · refine z_iload_n (pc := 8) dX3_sizeOfPart_8 rfl ?_
    refine z_bipush (pc := 9) (v := 87) dX3_sizeOfPart_9 (by decide) ?_
    refine z_icmp_eq (pc := 11) (tgt := 20) dX3_sizeOfPart_11 (by decide) (fun h11 => ?_) (fun h11 => ?_)
    · refine z_iconst (pc := 20) (v := 3) dX3_sizeOfPart_20 (by decide) ?_
      refine z_goto (pc := 21) (tgt := 25) dX3_sizeOfPart_21 (by decide) ?_
      refine z_iret (pc := 25) rfl dX3_sizeOfPart_25 ?_ ?_
      · rw [sz, if_neg h3, if_pos h11]; rfl
      · rfl
    · refine z_iload_n (pc := 14) dX3_sizeOfPart_14 rfl ?_
      refine z_bipush (pc := 15) (v := 68) dX3_sizeOfPart_15 (by decide) ?_
      refine z_icmp_ne (pc := 17) (tgt := 24) dX3_sizeOfPart_17 (by decide) (fun h17 => ?_) (fun h17 => ?_)
      · refine z_iconst (pc := 24) (v := 0) dX3_sizeOfPart_24 (by decide) ?_
        refine z_iret (pc := 25) rfl dX3_sizeOfPart_25 ?_ ?_
        · rw [sz, if_neg h3, if_neg h11, if_neg h17]; rfl
        · rfl
      · refine z_iconst (pc := 20) (v := 3) dX3_sizeOfPart_20 (by decide) ?_
        refine z_goto (pc := 21) (tgt := 25) dX3_sizeOfPart_21 (by decide) ?_
        refine z_iret (pc := 25) rfl dX3_sizeOfPart_25 ?_ ?_
        · have e : x = 68 := by simpa using h17
          rw [sz, if_neg h3, if_neg h11, if_pos e]; rfl
        · rfl
  · refine z_iconst (pc := 6) (v := 5) dX3_sizeOfPart_6 (by decide) ?_
    refine z_iret (pc := 7) rfl dX3_sizeOfPart_7 ?_ ?_
    · have e : x = 78 := by simpa using h3
      rw [sz, if_pos e]; rfl
    · rfl
set_option maxRecDepth 100000 in
set_option maxHeartbeats 400000 in
theorem c_X3_mostOf {M : z_Mem} {x : Int32} : z_Ct mX3_mostOf [.int x] M (some (.int (nI (mo x)))) M := by
  refine z_entry (by decide +kernel) (Nat.le_of_ble_eq_true rfl) rfl ?_
  show z_Sm mX3_mostOf _ _ 0 [some (.int x)] [] M
  refine z_iload_n (pc := 0) dX3_mostOf_0 rfl ?_
  refine z_bipush (pc := 1) (v := 78) dX3_mostOf_1 (by decide) ?_
  refine z_icmp_ne (pc := 3) (tgt := 9) dX3_mostOf_3 (by decide) (fun h3 => ?_) (fun h3 => ?_)
  · refine z_iload_n (pc := 9) dX3_mostOf_9 rfl ?_
    refine z_bipush (pc := 10) (v := 87) dX3_mostOf_10 (by decide) ?_
    refine z_icmp_ne (pc := 12) (tgt := 19) dX3_mostOf_12 (by decide) (fun h12 => ?_) (fun h12 => ?_)
    · refine z_iconst (pc := 19) (v := 3) dX3_mostOf_19 (by decide) ?_
      refine z_iret (pc := 20) rfl dX3_mostOf_20 ?_ ?_
      · rw [mo, if_neg h3, if_neg h12]; rfl
      · rfl
    · refine z_iconst (pc := 15) (v := 4) dX3_mostOf_15 (by decide) ?_
      refine z_goto (pc := 16) (tgt := 20) dX3_mostOf_16 (by decide) ?_
      refine z_iret (pc := 20) rfl dX3_mostOf_20 ?_ ?_
      · have e : x = 87 := by simpa using h12
        rw [mo, if_neg h3, if_pos e]; rfl
      · rfl
  · refine z_bipush (pc := 6) (v := 7) dX3_mostOf_6 (by decide) ?_
    refine z_iret (pc := 8) rfl dX3_mostOf_8 ?_ ?_
    · have e : x = 78 := by simpa using h3
      rw [mo, if_pos e]; rfl
    · rfl
theorem sz_le (c : Int32) : sz c ≤ 5 := by unfold sz; split <;> (try split) <;> (try split) <;> decide
theorem mo_le (c : Int32) : mo c ≤ 7 := by unfold mo; split <;> (try split) <;> decide
theorem nI0 {x : Nat} (hx : x < 2 ^ 31) : nI x = 0 ↔ x = 0 := nI_eq (b := 0) hx (by decide)
set_option maxRecDepth 100000 in
set_option maxHeartbeats 400000 in
theorem s_X3_canBegin_21 {M M2 : z_Mem} {r : Option Value} {l : Nat → Int32} {n : Nat} (hS : ScAt M l n) {x c : Int32} {p : Nat} (hx : x = nI p) (hp1 : 1 ≤ p) (hp : p < n) (kk : z_Sm mX3_canBegin r M2 52 [some (.ref 1), some (.int x), some (.int c), some (.int (nI (cN l c ((p - 1) + 1)))), none] [] (M)) (j : Nat) (hj : j ≤ p - 1) (ij : Int32) (v : Int32) (h2 : ij = nI (j + 1)) (hv_v : v = nI (cN l c (j + 1))) : z_Sm mX3_canBegin r M2 21 [some (.ref 1), some (.int x), some (.int c), some (.int v), some (.int ij)] [] M := by
  obtain ⟨h1, hn60, h3⟩ := hS
  have hxb : x = nI p := hx
  refine z_iload (pc := 21) dX3_canBegin_21 rfl ?_
  refine z_iload_n (pc := 23) dX3_canBegin_23 rfl ?_
  refine z_icmp_ge (pc := 24) (tgt := 52) dX3_canBegin_24 (by decide) (fun h24 => ?_) (fun h24 => ?_)
  · have hNj : p - 1 ≤ j := by
      have := z_ge h24 h2 hxb (by omega) (by omega)
      omega
    obtain rfl : j = p - 1 := by omega
    subst hv_v
    exact z_drop 4 kk
  · have hlt : j < p - 1 := by
      have := z_lt h24 h2 hxb (by omega) (by omega)
      omega
    refine z_iload_n (pc := 27) dX3_canBegin_27 rfl ?_
    refine z_aload_n (pc := 28) dX3_canBegin_28 rfl ?_
    refine z_getR (pc := 29) 2 q_fX3_9 z_s1 rfl dX3_canBegin_29 ?_
    refine z_iload (pc := 32) dX3_canBegin_32 rfl ?_
    refine z_iald (pc := 34) (j + 1) z_s2 ⟨h2, by omega, by decide⟩ dX3_canBegin_34 ?_
    refine z_iload_n (pc := 35) dX3_canBegin_35 rfl ?_
    refine z_icmp_ne (pc := 36) (tgt := 43) dX3_canBegin_36 (by decide) (fun h36 => ?_) (fun h36 => ?_)
    · refine z_iconst (pc := 43) (v := 0) dX3_canBegin_43 (by decide) ?_
      refine z_iadd (pc := 44) dX3_canBegin_44 ?_
      refine z_istore_n (pc := 45) dX3_canBegin_45 rfl (by decide) ?_
      refine z_iinc (pc := 46) dX3_canBegin_46 rfl rfl rfl (by decide) ?_
      refine z_goto (pc := 49) (tgt := 21) dX3_canBegin_49 (by decide) ?_
      rw [h3 _ (by omega)] at h36
      exact s_X3_canBegin_21 ⟨h1, hn60, h3⟩ hx hp1 hp kk (j + 1) hlt _ _ (z_n1 h2) (by rw [hv_v, cN_no h36, Int32.add_zero])
    · refine z_iconst (pc := 39) (v := 1) dX3_canBegin_39 (by decide) ?_
      refine z_goto (pc := 40) (tgt := 44) dX3_canBegin_40 (by decide) ?_
      refine z_iadd (pc := 44) dX3_canBegin_44 ?_
      refine z_istore_n (pc := 45) dX3_canBegin_45 rfl (by decide) ?_
      refine z_iinc (pc := 46) dX3_canBegin_46 rfl rfl rfl (by decide) ?_
      refine z_goto (pc := 49) (tgt := 21) dX3_canBegin_49 (by decide) ?_
      rw [h3 _ (by omega)] at h36
      have h36 : l (j + 1) = c := by simpa using h36
      exact s_X3_canBegin_21 ⟨h1, hn60, h3⟩ hx hp1 hp kk (j + 1) hlt _ _ (z_n1 h2) (by rw [hv_v, cN_yes (by omega) h36, nI_succ])
termination_by p - 1 - j
decreasing_by all_goals omega
set_option maxRecDepth 100000 in
set_option maxHeartbeats 400000 in
theorem c_X3_canBegin {M : z_Mem} {l : Nat → Int32} {n : Nat} (hS : ScAt M l n) {x : Int32} {p : Nat} (hx : x = nI p) (hp1 : 1 ≤ p) (hp : p < n) : z_Ct mX3_canBegin [.ref 1, .int x] M (some (.int (if okB l p then 1 else 0))) M := by
  have hn60 := hS.2.1
  have hlp := hS.2.2 p hp
  have hcl := cN_le l (l p) p
  have hml := mo_le (l p)
  have hsl := sz_le (l p)
  refine z_entry (by decide +kernel) (Nat.le_of_ble_eq_true rfl) rfl ?_
  show z_Sm mX3_canBegin _ _ 0 [some (.ref 1), some (.int x), none, none, none] [] M
  refine z_aload_n (pc := 0) dX3_canBegin_0 rfl ?_
  refine z_getR (pc := 1) 2 q_fX3_9 z_s1 rfl dX3_canBegin_1 ?_
  refine z_iload_n (pc := 4) dX3_canBegin_4 rfl ?_
  refine z_iald (pc := 5) (p) z_s2 ⟨hx, by omega, by decide⟩ dX3_canBegin_5 ?_
  refine z_istore_n (pc := 6) dX3_canBegin_6 rfl (by decide) ?_
  refine z_iload_n (pc := 7) dX3_canBegin_7 rfl ?_
  refine z_cS1 (pc := 8) c_X3_sizeOfPart (q_cX3_27 _ (by decide)) rfl dX3_canBegin_8 ?_
  refine z_if_ne (pc := 11) (tgt := 16) dX3_canBegin_11 (by decide) (fun h11 => ?_) (fun h11 => ?_)
  · refine z_iconst (pc := 16) (v := 0) dX3_canBegin_16 (by decide) ?_
    refine z_istore_n (pc := 17) dX3_canBegin_17 rfl (by decide) ?_
    refine z_iconst (pc := 18) (v := 1) dX3_canBegin_18 (by decide) ?_
    refine z_istore (pc := 19) dX3_canBegin_19 rfl (by decide) ?_
    rw [hlp] at h11 ⊢
    have h11 : ¬ sz (l p) = 0 := fun q => h11 ((nI0 (by omega)).mpr q)
    refine s_X3_canBegin_21 hS hx hp1 hp ?_ 0 (Nat.zero_le _) _ _ rfl rfl
    rw [show p - 1 + 1 = p by omega]
    refine z_iload_n (pc := 52) dX3_canBegin_52 rfl ?_
    refine z_iload_n (pc := 53) dX3_canBegin_53 rfl ?_
    refine z_cS1 (pc := 54) c_X3_mostOf (q_cX3_31 _ (by decide)) rfl dX3_canBegin_54 ?_
    refine z_icmp_ge (pc := 57) (tgt := 64) dX3_canBegin_57 (by decide) (fun h57 => ?_) (fun h57 => ?_)
    · refine z_iconst (pc := 64) (v := 0) dX3_canBegin_64 (by decide) ?_
      refine z_zret (pc := 65) rfl dX3_canBegin_65 ?_ ?_ ?_
      · rfl
      · rw [okB, if_neg h11, decide_eq_false (fun q => (Int32.not_lt.mpr h57) (nI_lt q (by omega)))]; rfl
      · rfl
    · refine z_iconst (pc := 60) (v := 1) dX3_canBegin_60 (by decide) ?_
      refine z_goto (pc := 61) (tgt := 65) dX3_canBegin_61 (by decide) ?_
      refine z_zret (pc := 65) rfl dX3_canBegin_65 ?_ ?_ ?_
      · rfl
      · rw [okB, if_neg h11, decide_eq_true ((nI_ltI (by omega) (by omega)).mp (Int32.not_le.mp h57))]; rfl
      · rfl
  · refine z_iconst (pc := 14) (v := 0) dX3_canBegin_14 (by decide) ?_
    refine z_zret (pc := 15) rfl dX3_canBegin_15 ?_ ?_ ?_
    · rfl
    · rw [hlp] at h11
      have h11 : sz (l p) = 0 := (nI0 (by omega)).mp (by simpa using h11)
      rw [okB, if_pos h11]; rfl
    · rfl
set_option maxRecDepth 100000 in
set_option maxHeartbeats 400000 in
theorem c_X3_canGoOn {M : z_Mem} {l : Nat → Int32} {n : Nat} (hS : ScAt M l n) {x y : Int32} {s p : Nat} (hx : x = nI s) (hy : y = nI p) (hsp : s < p) (hp : p < n) : z_Ct mX3_canGoOn [.ref 1, .int x, .int y] M (some (.int (if okG l n s p then 1 else 0))) M := by
  have hn60 := hS.2.1
  have hls := hS.2.2 s (by omega)
  have hsub : ∀ d, y - x = nI d → d < 100 → p = s + d := fun d hd hd2 => by
    rw [hx, hy, pk_sub (by omega)] at hd
    have := (nI_eq (by omega) (by omega)).mp hd
    omega
  refine z_entry (by decide +kernel) (Nat.le_of_ble_eq_true rfl) rfl ?_
  show z_Sm mX3_canGoOn _ _ 0 [some (.ref 1), some (.int x), some (.int y), none, none] [] M
  refine z_aload_n (pc := 0) dX3_canGoOn_0 rfl ?_
  refine z_iload_n (pc := 1) dX3_canGoOn_1 rfl ?_
  refine z_cV1 (pc := 2) (c_X3_figure hS hy (by omega)) (q_cX3_34 _ (by decide)) z_s1 rfl rfl dX3_canGoOn_2 ?_
  refine z_istore_n (pc := 5) dX3_canGoOn_5 rfl (by decide) ?_
  refine z_iload_n (pc := 6) dX3_canGoOn_6 rfl ?_
  refine z_if_ge (pc := 7) (tgt := 12) dX3_canGoOn_7 (by decide) (fun h7 => ?_) (fun h7 => ?_)
  · refine z_aload_n (pc := 12) dX3_canGoOn_12 rfl ?_
    refine z_getR (pc := 13) 2 q_fX3_9 z_s1 rfl dX3_canGoOn_13 ?_
    refine z_iload_n (pc := 16) dX3_canGoOn_16 rfl ?_
    refine z_iald (pc := 17) (s) z_s2 ⟨hx, by omega, by decide⟩ dX3_canGoOn_17 ?_
    refine z_bipush (pc := 18) (v := 87) dX3_canGoOn_18 (by decide) ?_
    refine z_icmp_ne (pc := 20) (tgt := 27) dX3_canGoOn_20 (by decide) (fun h20 => ?_) (fun h20 => ?_)
    · refine z_iconst (pc := 27) (v := 0) dX3_canGoOn_27 (by decide) ?_
      refine z_istore (pc := 28) dX3_canGoOn_28 rfl (by decide) ?_
      have hf : ¬ fg l n p < 0 := Int32.not_lt.mpr h7
      have hd : ∀ d, p = s + d → y - x = nI d := fun d hd => by rw [hx, hy, pk_sub (by omega)]; congr 1; omega
      have hne : ∀ d : Nat, ¬ y - x = nI d → ¬ p = s + d := fun d h q => h (hd d q)
      have hw : ¬ l s = 87 := by rw [hls] at h20; exact h20
      refine z_iload_n (pc := 30) dX3_canGoOn_30 rfl ?_
      refine z_iload_n (pc := 31) dX3_canGoOn_31 rfl ?_
      refine z_isub (pc := 32) dX3_canGoOn_32 ?_
      by_cases hs1 : y - x = 1
      · rw [hs1]
        refine z_tswIn (pc := 33) (off := 27) (tgt := 60) dX3_canGoOn_33 (by decide) (by decide) (by decide) (by decide) ?_
        refine z_iload_n (pc := 60) dX3_canGoOn_60 rfl ?_
        refine z_bipush (pc := 61) (v := 6) dX3_canGoOn_61 (by decide) ?_
        refine z_icmp_ge (pc := 63) (tgt := 70) dX3_canGoOn_63 (by decide) (fun h63 => ?_) (fun h63 => ?_)
        · refine z_iconst (pc := 70) (v := 0) dX3_canGoOn_70 (by decide) ?_
          refine z_zret (pc := 71) rfl dX3_canGoOn_71 ?_ ?_ ?_
          · rfl
          · have e := hsub 1 hs1 (by decide)
            rw [okG, if_neg hf, if_pos e, decide_eq_false (Int32.not_lt.mpr h63)]; rfl
          · rfl
        · refine z_iconst (pc := 66) (v := 1) dX3_canGoOn_66 (by decide) ?_
          refine z_goto (pc := 67) (tgt := 71) dX3_canGoOn_67 (by decide) ?_
          refine z_zret (pc := 71) rfl dX3_canGoOn_71 ?_ ?_ ?_
          · rfl
          · have e := hsub 1 hs1 (by decide)
            rw [okG, if_neg hf, if_pos e, decide_eq_true (Int32.not_le.mp h63)]; rfl
          · rfl
      by_cases hs2 : y - x = 2
      · rw [hs2]
        refine z_tswIn (pc := 33) (off := 39) (tgt := 72) dX3_canGoOn_33 (by decide) (by decide) (by decide) (by decide) ?_
        refine z_iload (pc := 72) dX3_canGoOn_72 rfl ?_
        refine z_if_ne (pc := 74) (tgt := 94) dX3_canGoOn_74 (by decide) (fun h74 => ?_) (fun h74 => ?_)
        · exact absurd rfl h74
        · refine z_iload_n (pc := 77) dX3_canGoOn_77 rfl ?_
          refine z_bipush (pc := 78) (v := 6) dX3_canGoOn_78 (by decide) ?_
          refine z_icmp_ge (pc := 80) (tgt := 98) dX3_canGoOn_80 (by decide) (fun h80 => ?_) (fun h80 => ?_)
          · refine z_iconst (pc := 98) (v := 0) dX3_canGoOn_98 (by decide) ?_
            refine z_zret (pc := 99) rfl dX3_canGoOn_99 ?_ ?_ ?_
            · rfl
            · have e := hsub 2 hs2 (by decide)
              rw [okG, if_neg hf, if_neg (show ¬ p = s + 1 by omega), if_pos e, if_neg hw, if_neg (Int32.not_lt.mpr h80)]; rfl
            · rfl
          · refine z_iload_n (pc := 83) dX3_canGoOn_83 rfl ?_
            refine z_aload_n (pc := 84) dX3_canGoOn_84 rfl ?_
            refine z_iload_n (pc := 85) dX3_canGoOn_85 rfl ?_
            refine z_iconst (pc := 86) (v := 1) dX3_canGoOn_86 (by decide) ?_
            refine z_iadd (pc := 87) dX3_canGoOn_87 ?_
            refine z_cV1 (pc := 88) (c_X3_figure hS (p := s + 1) (by rw [hx, ← nI_succ]) (by omega)) (q_cX3_34 _ (by decide)) z_s1 rfl rfl dX3_canGoOn_88 ?_
            refine z_icmp_eq (pc := 91) (tgt := 98) dX3_canGoOn_91 (by decide) (fun h91 => ?_) (fun h91 => ?_)
            · refine z_iconst (pc := 98) (v := 0) dX3_canGoOn_98 (by decide) ?_
              refine z_zret (pc := 99) rfl dX3_canGoOn_99 ?_ ?_ ?_
              · rfl
              · have e := hsub 2 hs2 (by decide)
                rw [okG, if_neg hf, if_neg (show ¬ p = s + 1 by omega), if_pos e, if_neg hw, if_pos (Int32.not_le.mp h80), decide_eq_false (fun q => q h91)]; rfl
              · rfl
            · refine z_iconst (pc := 94) (v := 1) dX3_canGoOn_94 (by decide) ?_
              refine z_goto (pc := 95) (tgt := 99) dX3_canGoOn_95 (by decide) ?_
              refine z_zret (pc := 99) rfl dX3_canGoOn_99 ?_ ?_ ?_
              · rfl
              · have e := hsub 2 hs2 (by decide)
                rw [okG, if_neg hf, if_neg (show ¬ p = s + 1 by omega), if_pos e, if_neg hw, if_pos (Int32.not_le.mp h80), decide_eq_true h91]; rfl
              · rfl
      by_cases hs3 : y - x = 3
      · rw [hs3]
        refine z_tswIn (pc := 33) (off := 67) (tgt := 100) dX3_canGoOn_33 (by decide) (by decide) (by decide) (by decide) ?_
        refine z_iconst (pc := 100) (v := 1) dX3_canGoOn_100 (by decide) ?_
        refine z_zret (pc := 101) rfl dX3_canGoOn_101 ?_ ?_ ?_
        · rfl
        · have e := hsub 3 hs3 (by decide)
          rw [okG, if_neg hf, if_neg (show ¬ p = s + 1 by omega), if_neg (show ¬ p = s + 2 by omega), if_pos e]; rfl
        · rfl
      have hn1 := hne 1 hs1
      have hn2 := hne 2 hs2
      have hn3 := hne 3 hs3
      refine z_tswOut (pc := 33) (tgt := 102) dX3_canGoOn_33 (z_sw1_3 hs1 hs2 hs3) (by decide) ?_
      refine z_iload_n (pc := 102) dX3_canGoOn_102 rfl ?_
      refine z_iconst (pc := 103) (v := 3) dX3_canGoOn_103 (by decide) ?_
      refine z_icmp_gt (pc := 104) (tgt := 111) dX3_canGoOn_104 (by decide) (fun h104 => ?_) (fun h104 => ?_)
      · refine z_iconst (pc := 111) (v := 0) dX3_canGoOn_111 (by decide) ?_
        refine z_zret (pc := 112) rfl dX3_canGoOn_112 ?_ ?_ ?_
        · rfl
        · rw [okG, if_neg hf, if_neg hn1, if_neg hn2, if_neg hn3, decide_eq_false (Int32.not_le.mpr h104)]; rfl
        · rfl
      · refine z_iconst (pc := 107) (v := 1) dX3_canGoOn_107 (by decide) ?_
        refine z_goto (pc := 108) (tgt := 112) dX3_canGoOn_108 (by decide) ?_
        refine z_zret (pc := 112) rfl dX3_canGoOn_112 ?_ ?_ ?_
        · rfl
        · rw [okG, if_neg hf, if_neg hn1, if_neg hn2, if_neg hn3, decide_eq_true (Int32.not_lt.mp h104)]; rfl
        · rfl
    · refine z_iconst (pc := 23) (v := 1) dX3_canGoOn_23 (by decide) ?_
      refine z_goto (pc := 24) (tgt := 28) dX3_canGoOn_24 (by decide) ?_
      refine z_istore (pc := 28) dX3_canGoOn_28 rfl (by decide) ?_
      have hf : ¬ fg l n p < 0 := Int32.not_lt.mpr h7
      have hd : ∀ d, p = s + d → y - x = nI d := fun d hd => by rw [hx, hy, pk_sub (by omega)]; congr 1; omega
      have hne : ∀ d : Nat, ¬ y - x = nI d → ¬ p = s + d := fun d h q => h (hd d q)
      have hw : l s = 87 := by rw [hls] at h20; simpa using h20
      refine z_iload_n (pc := 30) dX3_canGoOn_30 rfl ?_
      refine z_iload_n (pc := 31) dX3_canGoOn_31 rfl ?_
      refine z_isub (pc := 32) dX3_canGoOn_32 ?_
      by_cases hs1 : y - x = 1
      · rw [hs1]
        refine z_tswIn (pc := 33) (off := 27) (tgt := 60) dX3_canGoOn_33 (by decide) (by decide) (by decide) (by decide) ?_
        refine z_iload_n (pc := 60) dX3_canGoOn_60 rfl ?_
        refine z_bipush (pc := 61) (v := 6) dX3_canGoOn_61 (by decide) ?_
        refine z_icmp_ge (pc := 63) (tgt := 70) dX3_canGoOn_63 (by decide) (fun h63 => ?_) (fun h63 => ?_)
        · refine z_iconst (pc := 70) (v := 0) dX3_canGoOn_70 (by decide) ?_
          refine z_zret (pc := 71) rfl dX3_canGoOn_71 ?_ ?_ ?_
          · rfl
          · have e := hsub 1 hs1 (by decide)
            rw [okG, if_neg hf, if_pos e, decide_eq_false (Int32.not_lt.mpr h63)]; rfl
          · rfl
        · refine z_iconst (pc := 66) (v := 1) dX3_canGoOn_66 (by decide) ?_
          refine z_goto (pc := 67) (tgt := 71) dX3_canGoOn_67 (by decide) ?_
          refine z_zret (pc := 71) rfl dX3_canGoOn_71 ?_ ?_ ?_
          · rfl
          · have e := hsub 1 hs1 (by decide)
            rw [okG, if_neg hf, if_pos e, decide_eq_true (Int32.not_le.mp h63)]; rfl
          · rfl
      by_cases hs2 : y - x = 2
      · rw [hs2]
        refine z_tswIn (pc := 33) (off := 39) (tgt := 72) dX3_canGoOn_33 (by decide) (by decide) (by decide) (by decide) ?_
        refine z_iload (pc := 72) dX3_canGoOn_72 rfl ?_
        refine z_if_ne (pc := 74) (tgt := 94) dX3_canGoOn_74 (by decide) (fun h74 => ?_) (fun h74 => ?_)
        · refine z_iconst (pc := 94) (v := 1) dX3_canGoOn_94 (by decide) ?_
          refine z_goto (pc := 95) (tgt := 99) dX3_canGoOn_95 (by decide) ?_
          refine z_zret (pc := 99) rfl dX3_canGoOn_99 ?_ ?_ ?_
          · rfl
          · have e := hsub 2 hs2 (by decide)
            rw [okG, if_neg hf, if_neg (show ¬ p = s + 1 by omega), if_pos e, if_pos hw]; rfl
          · rfl
        · exact absurd h74 (by decide)
      by_cases hs3 : y - x = 3
      · rw [hs3]
        refine z_tswIn (pc := 33) (off := 67) (tgt := 100) dX3_canGoOn_33 (by decide) (by decide) (by decide) (by decide) ?_
        refine z_iconst (pc := 100) (v := 1) dX3_canGoOn_100 (by decide) ?_
        refine z_zret (pc := 101) rfl dX3_canGoOn_101 ?_ ?_ ?_
        · rfl
        · have e := hsub 3 hs3 (by decide)
          rw [okG, if_neg hf, if_neg (show ¬ p = s + 1 by omega), if_neg (show ¬ p = s + 2 by omega), if_pos e]; rfl
        · rfl
      have hn1 := hne 1 hs1
      have hn2 := hne 2 hs2
      have hn3 := hne 3 hs3
      refine z_tswOut (pc := 33) (tgt := 102) dX3_canGoOn_33 (z_sw1_3 hs1 hs2 hs3) (by decide) ?_
      refine z_iload_n (pc := 102) dX3_canGoOn_102 rfl ?_
      refine z_iconst (pc := 103) (v := 3) dX3_canGoOn_103 (by decide) ?_
      refine z_icmp_gt (pc := 104) (tgt := 111) dX3_canGoOn_104 (by decide) (fun h104 => ?_) (fun h104 => ?_)
      · refine z_iconst (pc := 111) (v := 0) dX3_canGoOn_111 (by decide) ?_
        refine z_zret (pc := 112) rfl dX3_canGoOn_112 ?_ ?_ ?_
        · rfl
        · rw [okG, if_neg hf, if_neg hn1, if_neg hn2, if_neg hn3, decide_eq_false (Int32.not_le.mpr h104)]; rfl
        · rfl
      · refine z_iconst (pc := 107) (v := 1) dX3_canGoOn_107 (by decide) ?_
        refine z_goto (pc := 108) (tgt := 112) dX3_canGoOn_108 (by decide) ?_
        refine z_zret (pc := 112) rfl dX3_canGoOn_112 ?_ ?_ ?_
        · rfl
        · rw [okG, if_neg hf, if_neg hn1, if_neg hn2, if_neg hn3, decide_eq_true (Int32.not_lt.mp h104)]; rfl
        · rfl
  · refine z_iconst (pc := 10) (v := 0) dX3_canGoOn_10 (by decide) ?_
    refine z_zret (pc := 11) rfl dX3_canGoOn_11 ?_ ?_ ?_
    · rfl
    · rw [okG, if_pos (Int32.not_le.mp h7)]; rfl
    · rfl
set_option maxRecDepth 100000 in
set_option maxHeartbeats 400000 in
theorem s_X3_firstFault_24 {M : z_Mem} {l : Nat → Int32} {n : Nat} (hS : ScAt M l n) (hn1 : 1 ≤ n) (f p s : Nat) (hf : p + f = n) (hs1 : 1 ≤ s) (hsp : s ≤ p) (x y : Int32) (hx : x = nI s) (hy : y = nI p) : z_Sm mX3_firstFault (some (.int (scn l n f p s))) M 24 [some (.ref 1), some (.int x), some (.int y)] [] M := by
  have hn60 := hS.2.1
  refine z_iload_n (pc := 24) dX3_firstFault_24 rfl ?_
  refine z_aload_n (pc := 25) dX3_firstFault_25 rfl ?_
  refine z_getI (pc := 26) q_fX3_15 z_s1 rfl dX3_firstFault_26 ?_
  refine z_icmp_ge (pc := 29) (tgt := 86) dX3_firstFault_29 (by decide) (fun h29 => ?_) (fun h29 => ?_)
  · have hnp : n ≤ p := z_ge h29 hy hS.1 (by omega) (by omega)
    obtain rfl : f = 0 := by omega
    refine z_iload_n (pc := 86) dX3_firstFault_86 rfl ?_
    refine z_aload_n (pc := 87) dX3_firstFault_87 rfl ?_
    refine z_getI (pc := 88) q_fX3_15 z_s1 rfl dX3_firstFault_88 ?_
    refine z_icmp_ne (pc := 91) (tgt := 99) dX3_firstFault_91 (by decide) (fun h91 => ?_) (fun h91 => ?_)
    · refine z_aload_n (pc := 99) dX3_firstFault_99 rfl ?_
      refine z_getI (pc := 100) q_fX3_15 z_s1 rfl dX3_firstFault_100 ?_
      refine z_iret (pc := 103) rfl dX3_firstFault_103 ?_ ?_
      · have e : ¬ s = n := by
          rw [hx, hS.1] at h91
          exact fun q => h91 (by rw [q])
        rw [scn, if_neg e, hS.1]
      · rfl
    · refine z_bipush (pc := 94) (v := (-9)) dX3_firstFault_94 (by decide) ?_
      refine z_goto (pc := 96) (tgt := 103) dX3_firstFault_96 (by decide) ?_
      refine z_iret (pc := 103) rfl dX3_firstFault_103 ?_ ?_
      · have e : s = n := by
          rw [hx, hS.1] at h91
          exact (nI_eq (by omega) (by omega)).mp (by simpa using h91)
        rw [scn, if_pos e]
      · rfl
  · have hlt : p < n := z_lt h29 hy hS.1 (by omega) (by omega)
    obtain ⟨g, rfl⟩ : ∃ g, f = g + 1 := ⟨f - 1, by omega⟩
    have hnps : ∀ q : nI p = nI s, p = s := fun q => (nI_eq (by omega) (by omega)).mp q
    rw [scn]
    refine z_iload_n (pc := 32) dX3_firstFault_32 rfl ?_
    refine z_iload_n (pc := 33) dX3_firstFault_33 rfl ?_
    refine z_icmp_ne (pc := 34) (tgt := 48) dX3_firstFault_34 (by decide) (fun h34 => ?_) (fun h34 => ?_)
    · refine z_aload_n (pc := 48) dX3_firstFault_48 rfl ?_
      refine z_iload_n (pc := 49) dX3_firstFault_49 rfl ?_
      refine z_iload_n (pc := 50) dX3_firstFault_50 rfl ?_
      refine z_cV2 (pc := 51) (c_X3_canGoOn hS hx hy (show s < p from Nat.lt_of_le_of_ne hsp (fun q => h34 (by rw [hx, hy, q]))) hlt) (q_cX3_23 _ (by decide)) z_s1 rfl rfl dX3_firstFault_51 ?_
      refine z_if_ne (pc := 54) (tgt := 59) dX3_firstFault_54 (by decide) (fun h54 => ?_) (fun h54 => ?_)
      · have ep : ¬ p = s := fun q => h34 (by rw [hx, hy, q])
        have hb : okG l n s p = true := by
          cases q : okG l n s p
          · rw [q] at h54; exact absurd rfl h54
          · rfl
        rw [if_neg ep, hb, if_neg (by decide)]
        refine z_iload_n (pc := 59) dX3_firstFault_59 rfl ?_
        refine z_iload_n (pc := 60) dX3_firstFault_60 rfl ?_
        refine z_isub (pc := 61) dX3_firstFault_61 ?_
        refine z_iconst (pc := 62) (v := 1) dX3_firstFault_62 (by decide) ?_
        refine z_iadd (pc := 63) dX3_firstFault_63 ?_
        refine z_aload_n (pc := 64) dX3_firstFault_64 rfl ?_
        refine z_getR (pc := 65) 2 q_fX3_9 z_s1 rfl dX3_firstFault_65 ?_
        refine z_iload_n (pc := 68) dX3_firstFault_68 rfl ?_
        refine z_iald (pc := 69) (s) z_s2 ⟨hx, by omega, by decide⟩ dX3_firstFault_69 ?_
        refine z_cS1 (pc := 70) c_X3_sizeOfPart (q_cX3_27 _ (by decide)) rfl dX3_firstFault_70 ?_
        refine z_icmp_ne (pc := 73) (tgt := 80) dX3_firstFault_73 (by decide) (fun h73 => ?_) (fun h73 => ?_)
        · refine z_iinc (pc := 80) dX3_firstFault_80 rfl rfl rfl (by decide) ?_
          refine z_goto (pc := 83) (tgt := 24) dX3_firstFault_83 (by decide) ?_
          have e : ¬ p - s + 1 = sz (l s) := fun q => h73 (by rw [hS.2.2 s (by omega), ← q, hx, hy, pk_sub (by omega), nI_succ])
          rw [if_neg e]
          exact s_X3_firstFault_24 hS hn1 g (p + 1) s (by omega) hs1 (by omega) _ _ hx (z_n1 hy)
        · refine z_iload_n (pc := 76) dX3_firstFault_76 rfl ?_
          refine z_iconst (pc := 77) (v := 1) dX3_firstFault_77 (by decide) ?_
          refine z_iadd (pc := 78) dX3_firstFault_78 ?_
          refine z_istore_n (pc := 79) dX3_firstFault_79 rfl (by decide) ?_
          refine z_iinc (pc := 80) dX3_firstFault_80 rfl rfl rfl (by decide) ?_
          refine z_goto (pc := 83) (tgt := 24) dX3_firstFault_83 (by decide) ?_
          have e : p - s + 1 = sz (l s) := by
            have h73 : y - x + 1 = nI (sz (l s)) := by rw [← hS.2.2 s (by omega)]; simpa using h73
            rw [hx, hy, pk_sub (by omega), ← nI_succ] at h73
            exact (nI_eq (by omega) (by have := sz_le (l s); omega)).mp h73
          rw [if_pos e]
          exact s_X3_firstFault_24 hS hn1 g (p + 1) (p + 1) (by omega) (by omega) (Nat.le_refl _) _ _ (by rw [hy, nI_succ]) (z_n1 hy)
      · refine z_iload_n (pc := 57) dX3_firstFault_57 rfl ?_
        refine z_iret (pc := 58) rfl dX3_firstFault_58 ?_ ?_
        · have ep : ¬ p = s := fun q => h34 (by rw [hx, hy, q])
          have hb : okG l n s p = false := by
            cases q : okG l n s p
            · rfl
            · rw [q] at h54; exact absurd h54 (by decide)
          rw [if_neg ep, if_pos hb, hy]
        · rfl
    · refine z_aload_n (pc := 37) dX3_firstFault_37 rfl ?_
      refine z_iload_n (pc := 38) dX3_firstFault_38 rfl ?_
      refine z_cV1 (pc := 39) (c_X3_canBegin hS hy (by omega) hlt) (q_cX3_19 _ (by decide)) z_s1 rfl rfl dX3_firstFault_39 ?_
      refine z_if_ne (pc := 42) (tgt := 59) dX3_firstFault_42 (by decide) (fun h42 => ?_) (fun h42 => ?_)
      · have ep : p = s := hnps (by rw [← hx, ← hy]; simpa using h34)
        have hb : okB l p = true := by
          cases q : okB l p
          · rw [q] at h42; exact absurd rfl h42
          · rfl
        rw [if_pos ep, hb, if_neg (by decide)]
        refine z_iload_n (pc := 59) dX3_firstFault_59 rfl ?_
        refine z_iload_n (pc := 60) dX3_firstFault_60 rfl ?_
        refine z_isub (pc := 61) dX3_firstFault_61 ?_
        refine z_iconst (pc := 62) (v := 1) dX3_firstFault_62 (by decide) ?_
        refine z_iadd (pc := 63) dX3_firstFault_63 ?_
        refine z_aload_n (pc := 64) dX3_firstFault_64 rfl ?_
        refine z_getR (pc := 65) 2 q_fX3_9 z_s1 rfl dX3_firstFault_65 ?_
        refine z_iload_n (pc := 68) dX3_firstFault_68 rfl ?_
        refine z_iald (pc := 69) (s) z_s2 ⟨hx, by omega, by decide⟩ dX3_firstFault_69 ?_
        refine z_cS1 (pc := 70) c_X3_sizeOfPart (q_cX3_27 _ (by decide)) rfl dX3_firstFault_70 ?_
        refine z_icmp_ne (pc := 73) (tgt := 80) dX3_firstFault_73 (by decide) (fun h73 => ?_) (fun h73 => ?_)
        · refine z_iinc (pc := 80) dX3_firstFault_80 rfl rfl rfl (by decide) ?_
          refine z_goto (pc := 83) (tgt := 24) dX3_firstFault_83 (by decide) ?_
          have e : ¬ p - s + 1 = sz (l s) := fun q => h73 (by rw [hS.2.2 s (by omega), ← q, hx, hy, pk_sub (by omega), nI_succ])
          rw [if_neg e]
          exact s_X3_firstFault_24 hS hn1 g (p + 1) s (by omega) hs1 (by omega) _ _ hx (z_n1 hy)
        · refine z_iload_n (pc := 76) dX3_firstFault_76 rfl ?_
          refine z_iconst (pc := 77) (v := 1) dX3_firstFault_77 (by decide) ?_
          refine z_iadd (pc := 78) dX3_firstFault_78 ?_
          refine z_istore_n (pc := 79) dX3_firstFault_79 rfl (by decide) ?_
          refine z_iinc (pc := 80) dX3_firstFault_80 rfl rfl rfl (by decide) ?_
          refine z_goto (pc := 83) (tgt := 24) dX3_firstFault_83 (by decide) ?_
          have e : p - s + 1 = sz (l s) := by
            have h73 : y - x + 1 = nI (sz (l s)) := by rw [← hS.2.2 s (by omega)]; simpa using h73
            rw [hx, hy, pk_sub (by omega), ← nI_succ] at h73
            exact (nI_eq (by omega) (by have := sz_le (l s); omega)).mp h73
          rw [if_pos e]
          exact s_X3_firstFault_24 hS hn1 g (p + 1) (p + 1) (by omega) (by omega) (Nat.le_refl _) _ _ (by rw [hy, nI_succ]) (z_n1 hy)
      · refine z_goto (pc := 45) (tgt := 57) dX3_firstFault_45 (by decide) ?_
        refine z_iload_n (pc := 57) dX3_firstFault_57 rfl ?_
        refine z_iret (pc := 58) rfl dX3_firstFault_58 ?_ ?_
        · have ep : p = s := hnps (by rw [← hx, ← hy]; simpa using h34)
          have hb : okB l p = false := by
            cases q : okB l p
            · rfl
            · rw [q] at h42; exact absurd h42 (by decide)
          rw [if_pos ep, if_pos hb, hy]
        · rfl
termination_by f
decreasing_by all_goals omega
set_option maxRecDepth 100000 in
set_option maxHeartbeats 400000 in
theorem c_X3_firstFault {M : z_Mem} {l : Nat → Int32} {n : Nat} (hS : ScAt M l n) : z_Ct mX3_firstFault [.ref 1] M (some (.int (faF l n))) M := by
  have hn60 := hS.2.1
  refine z_entry (by decide +kernel) (Nat.le_of_ble_eq_true rfl) rfl ?_
  show z_Sm mX3_firstFault _ _ 0 [some (.ref 1), none, none] [] M
  refine z_aload_n (pc := 0) dX3_firstFault_0 rfl ?_
  refine z_getI (pc := 1) q_fX3_15 z_s1 rfl dX3_firstFault_1 ?_
  refine z_if_eq (pc := 4) (tgt := 18) dX3_firstFault_4 (by decide) (fun h4 => ?_) (fun h4 => ?_)
  · refine z_iconst (pc := 18) (v := 0) dX3_firstFault_18 (by decide) ?_
    refine z_iret (pc := 19) rfl dX3_firstFault_19 ?_ ?_
    · rw [hS.1] at h4
      rw [faF, if_pos ((nI0 (by omega)).mp h4)]
    · rfl
  · have hn0 : ¬ n = 0 := fun q => h4 (by rw [hS.1, q]; rfl)
    refine z_aload_n (pc := 7) dX3_firstFault_7 rfl ?_
    refine z_getR (pc := 8) 2 q_fX3_9 z_s1 rfl dX3_firstFault_8 ?_
    refine z_iconst (pc := 11) (v := 0) dX3_firstFault_11 (by decide) ?_
    refine z_iald (pc := 12) (0) z_s2 ⟨rfl, by decide, by decide⟩ dX3_firstFault_12 ?_
    refine z_bipush (pc := 13) (v := 83) dX3_firstFault_13 (by decide) ?_
    refine z_icmp_eq (pc := 15) (tgt := 20) dX3_firstFault_15 (by decide) (fun h15 => ?_) (fun h15 => ?_)
    · refine z_iconst (pc := 20) (v := 1) dX3_firstFault_20 (by decide) ?_
      refine z_istore_n (pc := 21) dX3_firstFault_21 rfl (by decide) ?_
      refine z_iconst (pc := 22) (v := 1) dX3_firstFault_22 (by decide) ?_
      refine z_istore_n (pc := 23) dX3_firstFault_23 rfl (by decide) ?_
      rw [hS.2.2 0 (by omega)] at h15
      rw [faF, if_neg hn0, if_pos h15]
      exact s_X3_firstFault_24 hS (by omega) (n - 1) 1 1 (by omega) (by decide) (by decide) _ _ rfl rfl
    · refine z_iconst (pc := 18) (v := 0) dX3_firstFault_18 (by decide) ?_
      refine z_iret (pc := 19) rfl dX3_firstFault_19 ?_ ?_
      · rw [hS.2.2 0 (by omega)] at h15
        rw [faF, if_neg hn0, if_neg h15]
      · rfl
end
section
/-! ===== a text without a fault, and the town that it tells ===== -/
/-- where the k-th letter c stands, of those in places 1 .. p - 1 -/
def nP (l : Nat → Int32) (c : Int32) : Nat → Nat → Nat
  | 0, _ => 0
  | p + 1, k => if (1 ≤ p ∧ l p = c) ∧ k = cN l c p then p else nP l c p k
theorem nP_old {l : Nat → Int32} {c : Int32} {p k : Nat} (h : k < cN l c p) : nP l c (p + 1) k = nP l c p k := by rw [nP, if_neg (fun q => by have := q.2; omega)]
theorem nP_new {l : Nat → Int32} {c : Int32} {p : Nat} (h1 : 1 ≤ p) (h : l p = c) : nP l c (p + 1) (cN l c p) = p := by rw [nP, if_pos ⟨⟨h1, h⟩, rfl⟩]
def fgN (l : Nat → Int32) (n p : Nat) : Nat := (fg l n p).toNatClampNeg
def twP (l : Nat → Int32) (n : Nat) : TT := (cN l 78 n, fun k => fgN l n (nP l 78 n k + 1), fun k => fgN l n (nP l 78 n k + 2), fun k => fg l n (nP l 78 n k + 3), fun k => fg l n (nP l 78 n k + 4))
def twU (l : Nat → Int32) (n : Nat) : UT := (cN l 87 n, fun k => fgN l n (nP l 87 n k + 1), fun k => fg l n (nP l 87 n k + 2))
def twD (l : Nat → Int32) (n : Nat) : DT := (cN l 68 n, fun k => fgN l n (nP l 68 n k + 1), fun k => fgN l n (nP l 68 n k + 2))
/-- what is so of a letter that begins a part -/
def VP (l : Nat → Int32) (n q : Nat) : Prop := ¬ sz (l q) = 0 → okB l q = true ∧ ∀ i, q < i → i < q + sz (l q) → i < n ∧ okG l n q i = true
theorem okG_digit {l : Nat → Int32} {n s p : Nat} (h : okG l n s p = true) : sz (l p) = 0 := by
  have h0 : ¬ fg l n p < 0 := by
    intro q
    rw [okG, if_pos q] at h
    cases h
  unfold fg at h0
  split at h0
  · exact absurd (by decide) h0
  · split at h0
    · exact absurd (by decide) h0
    · next h1 =>
      split at h0
      · exact absurd (by decide) h0
      · next h2 =>
        have e1 : ¬ l p = 78 := fun q => h2 (by rw [q]; decide)
        have e2 : ¬ l p = 87 := fun q => h2 (by rw [q]; decide)
        have e3 : ¬ l p = 68 := fun q => h2 (by rw [q]; decide)
        rw [sz, if_neg e1, if_neg e2, if_neg e3]
theorem sz_one (c : Int32) : ¬ 1 = sz c := by unfold sz; split <;> (try split) <;> (try split) <;> decide
theorem scn_ok {l : Nat → Int32} {n : Nat} (hn : n ≤ 60) : ∀ (f p s : Nat), p + f = n → s ≤ p → scn l n f p s = -9 → (s < p → ∀ i, p ≤ i → i < s + sz (l s) → i < n ∧ okG l n s i = true) ∧ ∀ q, p ≤ q → q < n → VP l n q
  | 0, p, s, hf, hs, h => by
    have e : s = n := by
      rw [scn] at h
      split at h
      · assumption
      · exfalso
        exact nI_pos (n := n) (by omega) (by rw [h]; decide)
    exact ⟨fun q => by omega, fun q h1 h2 => by omega⟩
  | f + 1, p, s, hf, hs, h => by
    have hne : ∀ k, k < n → ¬ nI k = -9 := fun k hk q => nI_pos (n := k) (by omega) (by rw [q]; decide)
    rw [scn] at h
    by_cases hc : (if p = s then okB l p else okG l n s p) = false
    · rw [if_pos hc] at h
      exact absurd h (hne p (by omega))
    · rw [if_neg hc] at h
      by_cases e : p = s
      · subst e
        rw [if_pos rfl] at hc
        have hb : okB l p = true := z_nb hc
        rw [if_neg (by rw [Nat.sub_self, Nat.zero_add]; exact sz_one _)] at h
        obtain ⟨i1, i2⟩ := scn_ok hn f (p + 1) p (by omega) (by omega) h
        refine ⟨fun q => absurd q (Nat.lt_irrefl _), fun q h1 h2 => ?_⟩
        by_cases e2 : q = p
        · subst e2
          exact fun _ => ⟨hb, fun i j1 j2 => i1 (Nat.lt_succ_self _) i j1 j2⟩
        · exact i2 q (by omega) h2
      · rw [if_neg e] at hc
        have hg : okG l n s p = true := z_nb hc
        have hv : VP l n p := fun q => absurd (okG_digit hg) q
        split at h
        · next e3 =>
          obtain ⟨-, i2⟩ := scn_ok hn f (p + 1) (p + 1) (by omega) (Nat.le_refl _) h
          refine ⟨fun _ i j1 j2 => ?_, fun q h1 h2 => ?_⟩
          · obtain rfl : i = p := by omega
            exact ⟨by omega, hg⟩
          · by_cases e2 : q = p
            · subst e2; exact hv
            · exact i2 q (by omega) h2
        · obtain ⟨i1, i2⟩ := scn_ok hn f (p + 1) s (by omega) (by omega) h
          refine ⟨fun _ i j1 j2 => ?_, fun q h1 h2 => ?_⟩
          · by_cases e2 : i = p
            · subst e2; exact ⟨by omega, hg⟩
            · exact i1 (by omega) i (by omega) j2
          · by_cases e2 : q = p
            · subst e2; exact hv
            · exact i2 q (by omega) h2
/-- no fault: every letter that begins a part begins a whole one -/
theorem faF_ok {l : Nat → Int32} {n : Nat} (hn : n ≤ 60) (h : faF l n = -9) : 1 ≤ n ∧ ∀ q, 1 ≤ q → q < n → VP l n q := by
  unfold faF at h
  split at h
  · exact absurd h (by decide)
  · split at h
    · exact ⟨by omega, (scn_ok hn (n - 1) 1 1 (by omega) (Nat.le_refl _) h).2⟩
    · exact absurd h (by decide)
theorem fg_rng {l : Nat → Int32} {n p : Nat} (h : ¬ fg l n p < 0) : ∃ v, v < 10 ∧ fg l n p = nI v := by
  have h9 : fg l n p ≤ 9 := by
    unfold fg
    split
    · decide
    · split
      · decide
      · split
        · decide
        · next h1 h2 =>
          have a1 := Int32.le_iff_toInt_le.mp (Int32.not_lt.mp h2)
          have a2 := Int32.le_iff_toInt_le.mp (Int32.not_lt.mp h1)
          have e57 : (57 : Int32).toInt = 57 := by decide
          have e48 : (48 : Int32).toInt = 48 := by decide
          rw [Int32.le_iff_toInt_le, Int32.toInt_sub, e48]
          have e9 : (9 : Int32).toInt = 9 := by decide
          rw [e9, Int.bmod_eq_of_le (by omega) (by omega)]
          omega
  obtain ⟨j, hj, e⟩ := nI_of2 (M := 9) (n := 9) (by decide) h h9
  exact ⟨j, by omega, e⟩
theorem fg_six {l : Nat → Int32} {n p : Nat} (h : ¬ fg l n p < 0) (h6 : fg l n p < 6) : fg l n p = nI (fgN l n p) ∧ fgN l n p < 6 := by
  obtain ⟨v, hv, e⟩ := fg_rng h
  unfold fgN
  rw [e, nI_clamp (by omega)]
  rw [e] at h6
  exact ⟨rfl, (nI_ltI (b := 6) (by omega) (by decide)).mp h6⟩
/-- a part's figures -/
theorem okG_1 {l : Nat → Int32} {n s : Nat} (h : okG l n s (s + 1) = true) : fg l n (s + 1) = nI (fgN l n (s + 1)) ∧ fgN l n (s + 1) < 6 := by
  unfold okG at h
  split at h
  · cases h
  · next h0 =>
    rw [if_pos rfl] at h
    exact fg_six h0 (of_decide_eq_true h)
theorem okG_2 {l : Nat → Int32} {n s : Nat} (hw : ¬ l s = 87) (h : okG l n s (s + 2) = true) : fg l n (s + 2) = nI (fgN l n (s + 2)) ∧ fgN l n (s + 2) < 6 ∧ ¬ fg l n (s + 2) = fg l n (s + 1) := by
  unfold okG at h
  split at h
  · cases h
  · next h0 =>
    rw [if_neg (show ¬ s + 2 = s + 1 by omega), if_pos rfl] at h
    try rw [if_neg hw] at h
    split at h
    · next h6 =>
      obtain ⟨a1, a2⟩ := fg_six h0 h6
      exact ⟨a1, a2, of_decide_eq_true h⟩
    · cases h
theorem VP.lt {l : Nat → Int32} {n q : Nat} (hv : VP l n q) (h : ¬ sz (l q) = 0) : cN l (l q) q < mo (l q) := by
  have := (hv h).1
  rw [okB, if_neg h] at this
  exact of_decide_eq_true this
theorem cN_most {l : Nat → Int32} {n : Nat} {c : Int32} (hc : ¬ sz c = 0) (hV : ∀ q, 1 ≤ q → q < n → VP l n q) : ∀ p, p ≤ n → cN l c p ≤ mo c
  | 0, _ => Nat.zero_le _
  | p + 1, h => by
    have ih := cN_most hc hV p (by omega)
    by_cases e : 1 ≤ p ∧ l p = c
    · rw [cN_yes e.1 e.2]
      have := (hV p e.1 (by omega)).lt (by rw [e.2]; exact hc)
      rw [e.2] at this
      omega
    · rw [cN, if_neg e]; omega
/-- every number below the count has its place -/
theorem nP_at {l : Nat → Int32} {c : Int32} : ∀ (p k : Nat), k < cN l c p → 1 ≤ nP l c p k ∧ nP l c p k < p ∧ l (nP l c p k) = c
  | 0, k, h => absurd h (Nat.not_lt_zero _)
  | p + 1, k, h => by
    by_cases e : 1 ≤ p ∧ l p = c
    · rw [cN_yes e.1 e.2] at h
      by_cases e2 : k = cN l c p
      · rw [e2, nP_new e.1 e.2]
        exact ⟨e.1, Nat.lt_succ_self _, e.2⟩
      · have := nP_at (l := l) (c := c) p k (by omega)
        rw [nP_old (by omega)]
        exact ⟨this.1, by omega, this.2.2⟩
    · have h2 : k < cN l c p := by rw [cN, if_neg e] at h; omega
      have := nP_at p k h2
      rw [nP_old h2]
      exact ⟨this.1, by omega, this.2.2⟩
set_option maxRecDepth 100000 in
set_option maxHeartbeats 400000 in
theorem c_X4_addPin {M : z_Mem} {l : Nat → Int32} {n P q : Nat} (hS : ScAt M l n) (hP : M.1 3 0 = nI P) (hP7 : P < 7) {x : Int32} (hx : x = nI q) (hqn : q < n) : z_Ct mX4_addPin [.ref 3, .ref 1, .int x] M none (z_set (z_set (z_set (z_set (z_set M 4 P (fg l n (q + 1))) 5 P (fg l n (q + 2))) 6 P (fg l n (q + 3))) 7 P (fg l n (q + 4))) 3 0 (nI (P + 1))) := by
  have hb : ∀ N, Sb [4, 5, 6, 7] M N → ScAt N l n := fun N h => ScAt_sb hS h (by simp) (by simp)
  have hp : ∀ N, Sb [4, 5, 6, 7] M N → N.1 3 0 = nI P := fun N h => by rw [h.1 3 (by simp)]; exact hP
  have hn := hS.2.1
  have s1 : ∀ v, Sb [4, 5, 6, 7] M (z_set M 4 P v) := fun v => Sb.set v (by simp)
  have s2 : ∀ v w, Sb [4, 5, 6, 7] M (z_set (z_set M 4 P v) 5 P w) := fun v w => (s1 v).tr (Sb.set w (by simp))
  have s3 : ∀ v w u, Sb [4, 5, 6, 7] M (z_set (z_set (z_set M 4 P v) 5 P w) 6 P u) := fun v w u => (s2 v w).tr (Sb.set u (by simp))
  have s4 : ∀ v w u t, Sb [4, 5, 6, 7] M (z_set (z_set (z_set (z_set M 4 P v) 5 P w) 6 P u) 7 P t) := fun v w u t => (s3 v w u).tr (Sb.set t (by simp))
  have hq : ∀ d : Nat, x + nI d = nI (q + d) := fun d => by rw [hx, nI_add]
  refine z_entry (by decide +kernel) (Nat.le_of_ble_eq_true rfl) rfl ?_
  show z_Sm mX4_addPin _ _ 0 [some (.ref 3), some (.ref 1), some (.int x)] [] M
  refine z_aload_n (pc := 0) dX4_addPin_0 rfl ?_
  refine z_getR (pc := 1) 4 q_fX4_15 z_s3 rfl dX4_addPin_1 ?_
  refine z_aload_n (pc := 4) dX4_addPin_4 rfl ?_
  refine z_getI (pc := 5) q_fX4_9 z_s3 rfl dX4_addPin_5 ?_
  refine z_aload_n (pc := 8) dX4_addPin_8 rfl ?_
  refine z_iload_n (pc := 9) dX4_addPin_9 rfl ?_
  refine z_iconst (pc := 10) (v := 1) dX4_addPin_10 (by decide) ?_
  refine z_iadd (pc := 11) dX4_addPin_11 ?_
  refine z_cV1 (pc := 12) (c_X3_figure (p := q + 1) hS (hq 1) (by omega)) (q_cX4_58 _ (by decide)) z_s1 rfl rfl dX4_addPin_12 ?_
  refine z_iast (pc := 15) (P) z_s4 ⟨hP, hP7, by decide⟩ dX4_addPin_15 ?_
  refine z_aload_n (pc := 16) dX4_addPin_16 rfl ?_
  refine z_getR (pc := 17) 5 q_fX4_19 z_s3 rfl dX4_addPin_17 ?_
  refine z_aload_n (pc := 20) dX4_addPin_20 rfl ?_
  refine z_getI (pc := 21) q_fX4_9 z_s3 rfl dX4_addPin_21 ?_
  refine z_aload_n (pc := 24) dX4_addPin_24 rfl ?_
  refine z_iload_n (pc := 25) dX4_addPin_25 rfl ?_
  refine z_iconst (pc := 26) (v := 2) dX4_addPin_26 (by decide) ?_
  refine z_iadd (pc := 27) dX4_addPin_27 ?_
  refine z_cV1 (pc := 28) (c_X3_figure (p := q + 2) (hb _ (s1 _)) (hq 2) (by omega)) (q_cX4_58 _ (by decide)) z_s1 rfl rfl dX4_addPin_28 ?_
  refine z_iast (pc := 31) (P) z_s5 ⟨hp _ (s1 _), hP7, by decide⟩ dX4_addPin_31 ?_
  refine z_aload_n (pc := 32) dX4_addPin_32 rfl ?_
  refine z_getR (pc := 33) 6 q_fX4_22 z_s3 rfl dX4_addPin_33 ?_
  refine z_aload_n (pc := 36) dX4_addPin_36 rfl ?_
  refine z_getI (pc := 37) q_fX4_9 z_s3 rfl dX4_addPin_37 ?_
  refine z_aload_n (pc := 40) dX4_addPin_40 rfl ?_
  refine z_iload_n (pc := 41) dX4_addPin_41 rfl ?_
  refine z_iconst (pc := 42) (v := 3) dX4_addPin_42 (by decide) ?_
  refine z_iadd (pc := 43) dX4_addPin_43 ?_
  refine z_cV1 (pc := 44) (c_X3_figure (p := q + 3) (hb _ (s2 _ _)) (hq 3) (by omega)) (q_cX4_58 _ (by decide)) z_s1 rfl rfl dX4_addPin_44 ?_
  refine z_iast (pc := 47) (P) z_s6 ⟨hp _ (s2 _ _), hP7, by decide⟩ dX4_addPin_47 ?_
  refine z_aload_n (pc := 48) dX4_addPin_48 rfl ?_
  refine z_getR (pc := 49) 7 q_fX4_25 z_s3 rfl dX4_addPin_49 ?_
  refine z_aload_n (pc := 52) dX4_addPin_52 rfl ?_
  refine z_getI (pc := 53) q_fX4_9 z_s3 rfl dX4_addPin_53 ?_
  refine z_aload_n (pc := 56) dX4_addPin_56 rfl ?_
  refine z_iload_n (pc := 57) dX4_addPin_57 rfl ?_
  refine z_iconst (pc := 58) (v := 4) dX4_addPin_58 (by decide) ?_
  refine z_iadd (pc := 59) dX4_addPin_59 ?_
  refine z_cV1 (pc := 60) (c_X3_figure (p := q + 4) (hb _ (s3 _ _ _)) (hq 4) (by omega)) (q_cX4_58 _ (by decide)) z_s1 rfl rfl dX4_addPin_60 ?_
  refine z_iast (pc := 63) (P) z_s7 ⟨hp _ (s3 _ _ _), hP7, by decide⟩ dX4_addPin_63 ?_
  refine z_aload_n (pc := 64) dX4_addPin_64 rfl ?_
  refine z_dup (pc := 65) dX4_addPin_65 rfl ?_
  refine z_getI (pc := 66) q_fX4_9 z_s3 rfl dX4_addPin_66 ?_
  refine z_iconst (pc := 69) (v := 1) dX4_addPin_69 (by decide) ?_
  refine z_iadd (pc := 70) dX4_addPin_70 ?_
  refine z_putI (pc := 71) q_fX4_9 q_p4_0 z_s3 rfl dX4_addPin_71 ?_
  refine z_vret (pc := 74) rfl dX4_addPin_74 ?_
  rw [hp _ (s4 _ _ _ _), nI_succ]
/-- as far as the text has been read into the class's cells -/
def RdA (M : z_Mem) (l : Nat → Int32) (n p : Nat) : Prop := M.1 3 0 = nI (cN l 78 p) ∧ ∀ k, k < cN l 78 p → M.1 4 k = fg l n (nP l 78 p k + 1) ∧ M.1 5 k = fg l n (nP l 78 p k + 2) ∧ M.1 6 k = fg l n (nP l 78 p k + 3) ∧ M.1 7 k = fg l n (nP l 78 p k + 4)
def RdB (M : z_Mem) (l : Nat → Int32) (n p : Nat) : Prop := M.1 3 5 = nI (cN l 87 p) ∧ ∀ k, k < cN l 87 p → M.1 8 k = fg l n (nP l 87 p k + 1) ∧ M.1 9 k = fg l n (nP l 87 p k + 2)
def RdC (M : z_Mem) (l : Nat → Int32) (n p : Nat) : Prop := M.1 3 8 = nI (cN l 68 p) ∧ ∀ k, k < cN l 68 p → M.1 10 k = fg l n (nP l 68 p k + 1) ∧ M.1 11 k = fg l n (nP l 68 p k + 2)
theorem RdA_no {M N : z_Mem} {l : Nat → Int32} {n p : Nat} (h : RdA M l n p) (hp : ¬ l p = 78) (e : N.1 3 0 = M.1 3 0 ∧ N.1 4 = M.1 4 ∧ N.1 5 = M.1 5 ∧ N.1 6 = M.1 6 ∧ N.1 7 = M.1 7) : RdA N l n (p + 1) := by
  unfold RdA
  rw [cN_no hp, e.1, e.2.1, e.2.2.1, e.2.2.2.1, e.2.2.2.2]
  refine ⟨h.1, fun k hk => ?_⟩
  rw [nP_old hk]
  exact h.2 k hk
theorem RdB_no {M N : z_Mem} {l : Nat → Int32} {n p : Nat} (h : RdB M l n p) (hp : ¬ l p = 87) (e : N.1 3 5 = M.1 3 5 ∧ N.1 8 = M.1 8 ∧ N.1 9 = M.1 9) : RdB N l n (p + 1) := by
  unfold RdB
  rw [cN_no hp, e.1, e.2.1, e.2.2]
  refine ⟨h.1, fun k hk => ?_⟩
  rw [nP_old hk]
  exact h.2 k hk
theorem RdC_no {M N : z_Mem} {l : Nat → Int32} {n p : Nat} (h : RdC M l n p) (hp : ¬ l p = 68) (e : N.1 3 8 = M.1 3 8 ∧ N.1 10 = M.1 10 ∧ N.1 11 = M.1 11) : RdC N l n (p + 1) := by
  unfold RdC
  rw [cN_no hp, e.1, e.2.1, e.2.2]
  refine ⟨h.1, fun k hk => ?_⟩
  rw [nP_old hk]
  exact h.2 k hk
theorem upd_lt {f : Nat → Int32} {P k : Nat} {v : Int32} (h : k < P) : upd f P v k = f k := upd_n _ _ (by omega)
set_option maxRecDepth 100000 in
set_option maxHeartbeats 400000 in
theorem s_X4_readFrom_17 {l : Nat → Int32} {n : Nat} (hV : ∀ q, 1 ≤ q → q < n → VP l n q) {Mj : z_Mem} (hS : ScAt Mj l n) (p : Nat) (hp1 : 1 ≤ p) (hpn : p ≤ n) (ij : Int32) (Mk : z_Mem) (h2 : ij = nI p) (hA : RdA Mj l n p) (hB : RdB Mj l n p) (hC : RdC Mj l n p) : ∃ M2, z_Sm mX4_readFrom none M2 17 [some (.ref 3), some (.ref 1), some (.int ij), none] [] Mj ∧ RdA M2 l n n ∧ RdB M2 l n n ∧ RdC M2 l n n ∧ Sb [3, 4, 5, 6, 7, 8, 9, 10, 11] Mj M2 := by
  have hn60 := hS.2.1
  by_cases hend : p = n
  · subst hend
    refine ⟨Mj, ?_, hA, hB, hC, Sb.rf⟩
    refine z_iload_n (pc := 17) dX4_readFrom_17 rfl ?_
    refine z_aload_n (pc := 18) dX4_readFrom_18 rfl ?_
    refine z_getI (pc := 19) q_fX4_46 z_s1 rfl dX4_readFrom_19 ?_
    refine z_icmp_ge (pc := 22) (tgt := 177) dX4_readFrom_22 (by decide) (fun h22 => ?_) (fun h22 => ?_)
    · refine z_vret (pc := 177) rfl dX4_readFrom_177 ?_
      rfl
    · exact absurd (z_lt h22 h2 hS.1 (by omega) (by omega)) (by omega)
  have hlt : p < n := by omega
  have hlp := hS.2.2 p hlt
  have hV1 := hV p hp1 hlt
  by_cases cN' : l p = 78
  · have hc := hV1.lt (by rw [cN']; decide)
    rw [cN'] at hc
    have hc7 : cN l 78 p < 7 := hc
    have hsb : Sb [3, 4, 5, 6, 7, 8, 9, 10, 11] Mj (z_set (z_set (z_set (z_set (z_set Mj 4 (cN l 78 p) (fg l n (p + 1))) 5 (cN l 78 p) (fg l n (p + 2))) 6 (cN l 78 p) (fg l n (p + 3))) 7 (cN l 78 p) (fg l n (p + 4))) 3 0 (nI (cN l 78 p + 1))) := ((((Sb.set _ (by simp)).tr (Sb.set _ (by simp))).tr (Sb.set _ (by simp))).tr (Sb.set _ (by simp))).tr (Sb.set _ (by simp))
    obtain ⟨M2, hsm, r1, r2, r3, r4⟩ := s_X4_readFrom_17 hV (ScAt_sb hS hsb (by simp) (by simp)) (p + 1) (by omega) (by omega) (ij + Int32.ofInt 1) (z_set (z_set (z_set (z_set (z_set Mj 4 (cN l 78 p) (fg l n (p + 1))) 5 (cN l 78 p) (fg l n (p + 2))) 6 (cN l 78 p) (fg l n (p + 3))) 7 (cN l 78 p) (fg l n (p + 4))) 3 0 (nI (cN l 78 p + 1))) (z_n1 h2) (by
      unfold RdA
      rw [cN_yes hp1 cN']
      refine ⟨by rw [z_set, z_row_1, upd_1], fun k hk => ?_⟩
      have g4 : (z_set (z_set (z_set (z_set (z_set Mj 4 (cN l 78 p) (fg l n (p + 1))) 5 (cN l 78 p) (fg l n (p + 2))) 6 (cN l 78 p) (fg l n (p + 3))) 7 (cN l 78 p) (fg l n (p + 4))) 3 0 (nI (cN l 78 p + 1))).1 4 = upd (Mj.1 4) (cN l 78 p) (fg l n (p + 1)) := by simp [z_set, z_row]
      have g5 : (z_set (z_set (z_set (z_set (z_set Mj 4 (cN l 78 p) (fg l n (p + 1))) 5 (cN l 78 p) (fg l n (p + 2))) 6 (cN l 78 p) (fg l n (p + 3))) 7 (cN l 78 p) (fg l n (p + 4))) 3 0 (nI (cN l 78 p + 1))).1 5 = upd (Mj.1 5) (cN l 78 p) (fg l n (p + 2)) := by simp [z_set, z_row]
      have g6 : (z_set (z_set (z_set (z_set (z_set Mj 4 (cN l 78 p) (fg l n (p + 1))) 5 (cN l 78 p) (fg l n (p + 2))) 6 (cN l 78 p) (fg l n (p + 3))) 7 (cN l 78 p) (fg l n (p + 4))) 3 0 (nI (cN l 78 p + 1))).1 6 = upd (Mj.1 6) (cN l 78 p) (fg l n (p + 3)) := by simp [z_set, z_row]
      have g7 : (z_set (z_set (z_set (z_set (z_set Mj 4 (cN l 78 p) (fg l n (p + 1))) 5 (cN l 78 p) (fg l n (p + 2))) 6 (cN l 78 p) (fg l n (p + 3))) 7 (cN l 78 p) (fg l n (p + 4))) 3 0 (nI (cN l 78 p + 1))).1 7 = upd (Mj.1 7) (cN l 78 p) (fg l n (p + 4)) := by simp [z_set, z_row]
      rw [g4, g5, g6, g7]
      by_cases e : k = cN l 78 p
      · subst e
        rw [nP_new hp1 cN', upd_1, upd_1, upd_1, upd_1]
        exact ⟨rfl, rfl, rfl, rfl⟩
      · rw [nP_old (by omega), upd_n _ _ e, upd_n _ _ e, upd_n _ _ e, upd_n _ _ e]
        exact hA.2 k (by omega)) (RdB_no hB (by rw [cN']; decide) ⟨by simp [z_set, z_row, upd], by simp [z_set, z_row], by simp [z_set, z_row]⟩) (RdC_no hC (by rw [cN']; decide) ⟨by simp [z_set, z_row, upd], by simp [z_set, z_row], by simp [z_set, z_row]⟩)
    refine ⟨M2, ?_, r1, r2, r3, hsb.tr r4⟩
    refine z_iload_n (pc := 17) dX4_readFrom_17 rfl ?_
    refine z_aload_n (pc := 18) dX4_readFrom_18 rfl ?_
    refine z_getI (pc := 19) q_fX4_46 z_s1 rfl dX4_readFrom_19 ?_
    refine z_icmp_ge (pc := 22) (tgt := 177) dX4_readFrom_22 (by decide) (fun h22 => ?_) (fun h22 => ?_)
    · exact absurd (z_ge h22 h2 hS.1 (by omega) (by omega)) (by omega)
    · refine z_aload_n (pc := 25) dX4_readFrom_25 rfl ?_
      refine z_getR (pc := 26) 2 q_fX4_51 z_s1 rfl dX4_readFrom_26 ?_
      refine z_iload_n (pc := 29) dX4_readFrom_29 rfl ?_
      refine z_iald (pc := 30) (p) z_s2 ⟨h2, by omega, by decide⟩ dX4_readFrom_30 ?_
      refine z_istore_n (pc := 31) dX4_readFrom_31 rfl (by decide) ?_
      refine z_iload_n (pc := 32) dX4_readFrom_32 rfl ?_
      refine z_bipush (pc := 33) (v := 78) dX4_readFrom_33 (by decide) ?_
      refine z_icmp_ne (pc := 35) (tgt := 56) dX4_readFrom_35 (by decide) (fun h35 => ?_) (fun h35 => ?_)
      · exact absurd (hlp.trans cN') h35
      · refine z_aload_n (pc := 38) dX4_readFrom_38 rfl ?_
        refine z_getI (pc := 39) q_fX4_9 z_s3 rfl dX4_readFrom_39 ?_
        refine z_bipush (pc := 42) (v := 7) dX4_readFrom_42 (by decide) ?_
        refine z_icmp_ge (pc := 44) (tgt := 56) dX4_readFrom_44 (by decide) (fun h44 => ?_) (fun h44 => ?_)
        · exact absurd h44 (by rw [hA.1]; exact nI_ge (b := 7) hc7 (by decide))
        · refine z_aload_n (pc := 47) dX4_readFrom_47 rfl ?_
          refine z_aload_n (pc := 48) dX4_readFrom_48 rfl ?_
          refine z_iload_n (pc := 49) dX4_readFrom_49 rfl ?_
          refine z_cV2v (pc := 50) (c_X4_addPin hS hA.1 hc7 h2 hlt) (q_cX4_54 _ (by decide)) z_s3 rfl rfl dX4_readFrom_50 ?_
          refine z_goto (pc := 53) (tgt := 171) dX4_readFrom_53 (by decide) ?_
          refine z_iinc (pc := 171) dX4_readFrom_171 rfl rfl rfl (by decide) ?_
          refine z_goto (pc := 174) (tgt := 17) dX4_readFrom_174 (by decide) ?_
          refine z_drop 3 ?_
          exact hsm
  by_cases cW : l p = 87
  · have hc := hV1.lt (by rw [cW]; decide)
    rw [cW] at hc
    have hc4 : cN l 87 p < 4 := hc
    have hsb : Sb [3, 4, 5, 6, 7, 8, 9, 10, 11] Mj (z_set (z_set (z_set Mj 8 (cN l 87 p) (fg l n (p + 1))) 9 (cN l 87 p) (fg l n (p + 2))) 3 5 (nI (cN l 87 p + 1))) := (((Sb.set _ (by simp)).tr (Sb.set _ (by simp)))).tr (Sb.set _ (by simp))
    obtain ⟨M2, hsm, r1, r2, r3, r4⟩ := s_X4_readFrom_17 hV (ScAt_sb hS hsb (by simp) (by simp)) (p + 1) (by omega) (by omega) (ij + Int32.ofInt 1) (z_set (z_set (z_set Mj 8 (cN l 87 p) (fg l n (p + 1))) 9 (cN l 87 p) (fg l n (p + 2))) 3 5 (nI (cN l 87 p + 1))) (z_n1 h2) (RdA_no hA cN' ⟨by simp [z_set, z_row, upd], by simp [z_set, z_row], by simp [z_set, z_row], by simp [z_set, z_row], by simp [z_set, z_row]⟩) (by
      unfold RdB
      rw [cN_yes hp1 cW]
      refine ⟨by rw [z_set, z_row_1, upd_1], fun k hk => ?_⟩
      have g4 : (z_set (z_set (z_set Mj 8 (cN l 87 p) (fg l n (p + 1))) 9 (cN l 87 p) (fg l n (p + 2))) 3 5 (nI (cN l 87 p + 1))).1 8 = upd (Mj.1 8) (cN l 87 p) (fg l n (p + 1)) := by simp [z_set, z_row]
      have g5 : (z_set (z_set (z_set Mj 8 (cN l 87 p) (fg l n (p + 1))) 9 (cN l 87 p) (fg l n (p + 2))) 3 5 (nI (cN l 87 p + 1))).1 9 = upd (Mj.1 9) (cN l 87 p) (fg l n (p + 2)) := by simp [z_set, z_row]
      rw [g4, g5]
      by_cases e : k = cN l 87 p
      · subst e
        rw [nP_new hp1 cW, upd_1, upd_1]
        exact ⟨rfl, rfl⟩
      · rw [nP_old (by omega), upd_n _ _ e, upd_n _ _ e]
        exact hB.2 k (by omega)) (RdC_no hC (by rw [cW]; decide) ⟨by simp [z_set, z_row, upd], by simp [z_set, z_row], by simp [z_set, z_row]⟩)
    refine ⟨M2, ?_, r1, r2, r3, hsb.tr r4⟩
    have hq : ∀ d : Nat, ij + nI d = nI (p + d) := fun d => by rw [h2, nI_add]
    have s1 : ∀ v, (z_set Mj 8 (cN l 87 p) v).1 3 5 = nI (cN l 87 p) := fun v => by rw [z_set, z_row_n _ _ (by decide)]; exact hB.1
    have s2 : ∀ v w, (z_set (z_set Mj 8 (cN l 87 p) v) 9 (cN l 87 p) w).1 3 5 = nI (cN l 87 p) := fun v w => by rw [z_set, z_row_n _ _ (by decide)]; exact s1 v
    refine z_iload_n (pc := 17) dX4_readFrom_17 rfl ?_
    refine z_aload_n (pc := 18) dX4_readFrom_18 rfl ?_
    refine z_getI (pc := 19) q_fX4_46 z_s1 rfl dX4_readFrom_19 ?_
    refine z_icmp_ge (pc := 22) (tgt := 177) dX4_readFrom_22 (by decide) (fun h22 => ?_) (fun h22 => ?_)
    · exact absurd (z_ge h22 h2 hS.1 (by omega) (by omega)) (by omega)
    · refine z_aload_n (pc := 25) dX4_readFrom_25 rfl ?_
      refine z_getR (pc := 26) 2 q_fX4_51 z_s1 rfl dX4_readFrom_26 ?_
      refine z_iload_n (pc := 29) dX4_readFrom_29 rfl ?_
      refine z_iald (pc := 30) (p) z_s2 ⟨h2, by omega, by decide⟩ dX4_readFrom_30 ?_
      refine z_istore_n (pc := 31) dX4_readFrom_31 rfl (by decide) ?_
      refine z_iload_n (pc := 32) dX4_readFrom_32 rfl ?_
      refine z_bipush (pc := 33) (v := 78) dX4_readFrom_33 (by decide) ?_
      refine z_icmp_ne (pc := 35) (tgt := 56) dX4_readFrom_35 (by decide) (fun h35 => ?_) (fun h35 => ?_)
      · refine z_iload_n (pc := 56) dX4_readFrom_56 rfl ?_
        refine z_bipush (pc := 57) (v := 87) dX4_readFrom_57 (by decide) ?_
        refine z_icmp_ne (pc := 59) (tgt := 115) dX4_readFrom_59 (by decide) (fun h59 => ?_) (fun h59 => ?_)
        · exact absurd (hlp.trans cW) h59
        · refine z_aload_n (pc := 62) dX4_readFrom_62 rfl ?_
          refine z_getI (pc := 63) q_fX4_28 z_s3 rfl dX4_readFrom_63 ?_
          refine z_iconst (pc := 66) (v := 4) dX4_readFrom_66 (by decide) ?_
          refine z_icmp_ge (pc := 67) (tgt := 115) dX4_readFrom_67 (by decide) (fun h67 => ?_) (fun h67 => ?_)
          · exact absurd h67 (by rw [hB.1]; exact nI_ge (b := 4) hc4 (by decide))
          · refine z_aload_n (pc := 70) dX4_readFrom_70 rfl ?_
            refine z_getR (pc := 71) 8 q_fX4_31 z_s3 rfl dX4_readFrom_71 ?_
            refine z_aload_n (pc := 74) dX4_readFrom_74 rfl ?_
            refine z_getI (pc := 75) q_fX4_28 z_s3 rfl dX4_readFrom_75 ?_
            refine z_aload_n (pc := 78) dX4_readFrom_78 rfl ?_
            refine z_iload_n (pc := 79) dX4_readFrom_79 rfl ?_
            refine z_iconst (pc := 80) (v := 1) dX4_readFrom_80 (by decide) ?_
            refine z_iadd (pc := 81) dX4_readFrom_81 ?_
            refine z_cV1 (pc := 82) (c_X3_figure (p := p + 1) hS (hq 1) (by omega)) (q_cX4_58 _ (by decide)) z_s1 rfl rfl dX4_readFrom_82 ?_
            refine z_iast (pc := 85) (cN l 87 p) z_s8 ⟨hB.1, hc4, by decide⟩ dX4_readFrom_85 ?_
            refine z_aload_n (pc := 86) dX4_readFrom_86 rfl ?_
            refine z_getR (pc := 87) 9 q_fX4_34 z_s3 rfl dX4_readFrom_87 ?_
            refine z_aload_n (pc := 90) dX4_readFrom_90 rfl ?_
            refine z_getI (pc := 91) q_fX4_28 z_s3 rfl dX4_readFrom_91 ?_
            refine z_aload_n (pc := 94) dX4_readFrom_94 rfl ?_
            refine z_iload_n (pc := 95) dX4_readFrom_95 rfl ?_
            refine z_iconst (pc := 96) (v := 2) dX4_readFrom_96 (by decide) ?_
            refine z_iadd (pc := 97) dX4_readFrom_97 ?_
            refine z_cV1 (pc := 98) (c_X3_figure (p := p + 2) (ScAt_sb hS (Sb.set (ids := [8]) _ (by simp)) (by simp) (by simp)) (hq 2) (by omega)) (q_cX4_58 _ (by decide)) z_s1 rfl rfl dX4_readFrom_98 ?_
            refine z_iast (pc := 101) (cN l 87 p) z_s9 ⟨s1 _, hc4, by decide⟩ dX4_readFrom_101 ?_
            refine z_aload_n (pc := 102) dX4_readFrom_102 rfl ?_
            refine z_dup (pc := 103) dX4_readFrom_103 rfl ?_
            refine z_getI (pc := 104) q_fX4_28 z_s3 rfl dX4_readFrom_104 ?_
            refine z_iconst (pc := 107) (v := 1) dX4_readFrom_107 (by decide) ?_
            refine z_iadd (pc := 108) dX4_readFrom_108 ?_
            refine z_putI (pc := 109) q_fX4_28 q_p4_5 z_s3 rfl dX4_readFrom_109 ?_
            refine z_goto (pc := 112) (tgt := 171) dX4_readFrom_112 (by decide) ?_
            refine z_iinc (pc := 171) dX4_readFrom_171 rfl rfl rfl (by decide) ?_
            refine z_goto (pc := 174) (tgt := 17) dX4_readFrom_174 (by decide) ?_
            rw [s2, ← nI_succ]
            refine z_drop 3 ?_
            exact hsm
      · exact absurd (hlp.symm.trans (by simpa using h35)) cN'
  by_cases cD : l p = 68
  · have hc := hV1.lt (by rw [cD]; decide)
    rw [cD] at hc
    have hc3 : cN l 68 p < 3 := hc
    have hsb : Sb [3, 4, 5, 6, 7, 8, 9, 10, 11] Mj (z_set (z_set (z_set Mj 10 (cN l 68 p) (fg l n (p + 1))) 11 (cN l 68 p) (fg l n (p + 2))) 3 8 (nI (cN l 68 p + 1))) := (((Sb.set _ (by simp)).tr (Sb.set _ (by simp)))).tr (Sb.set _ (by simp))
    obtain ⟨M2, hsm, r1, r2, r3, r4⟩ := s_X4_readFrom_17 hV (ScAt_sb hS hsb (by simp) (by simp)) (p + 1) (by omega) (by omega) (ij + Int32.ofInt 1) (z_set (z_set (z_set Mj 10 (cN l 68 p) (fg l n (p + 1))) 11 (cN l 68 p) (fg l n (p + 2))) 3 8 (nI (cN l 68 p + 1))) (z_n1 h2) (RdA_no hA cN' ⟨by simp [z_set, z_row, upd], by simp [z_set, z_row], by simp [z_set, z_row], by simp [z_set, z_row], by simp [z_set, z_row]⟩) (RdB_no hB cW ⟨by simp [z_set, z_row, upd], by simp [z_set, z_row], by simp [z_set, z_row]⟩) (by
      unfold RdC
      rw [cN_yes hp1 cD]
      refine ⟨by rw [z_set, z_row_1, upd_1], fun k hk => ?_⟩
      have g4 : (z_set (z_set (z_set Mj 10 (cN l 68 p) (fg l n (p + 1))) 11 (cN l 68 p) (fg l n (p + 2))) 3 8 (nI (cN l 68 p + 1))).1 10 = upd (Mj.1 10) (cN l 68 p) (fg l n (p + 1)) := by simp [z_set, z_row]
      have g5 : (z_set (z_set (z_set Mj 10 (cN l 68 p) (fg l n (p + 1))) 11 (cN l 68 p) (fg l n (p + 2))) 3 8 (nI (cN l 68 p + 1))).1 11 = upd (Mj.1 11) (cN l 68 p) (fg l n (p + 2)) := by simp [z_set, z_row]
      rw [g4, g5]
      by_cases e : k = cN l 68 p
      · subst e
        rw [nP_new hp1 cD, upd_1, upd_1]
        exact ⟨rfl, rfl⟩
      · rw [nP_old (by omega), upd_n _ _ e, upd_n _ _ e]
        exact hC.2 k (by omega))
    refine ⟨M2, ?_, r1, r2, r3, hsb.tr r4⟩
    have hq : ∀ d : Nat, ij + nI d = nI (p + d) := fun d => by rw [h2, nI_add]
    have s1 : ∀ v, (z_set Mj 10 (cN l 68 p) v).1 3 8 = nI (cN l 68 p) := fun v => by rw [z_set, z_row_n _ _ (by decide)]; exact hC.1
    have s2 : ∀ v w, (z_set (z_set Mj 10 (cN l 68 p) v) 11 (cN l 68 p) w).1 3 8 = nI (cN l 68 p) := fun v w => by rw [z_set, z_row_n _ _ (by decide)]; exact s1 v
    refine z_iload_n (pc := 17) dX4_readFrom_17 rfl ?_
    refine z_aload_n (pc := 18) dX4_readFrom_18 rfl ?_
    refine z_getI (pc := 19) q_fX4_46 z_s1 rfl dX4_readFrom_19 ?_
    refine z_icmp_ge (pc := 22) (tgt := 177) dX4_readFrom_22 (by decide) (fun h22 => ?_) (fun h22 => ?_)
    · exact absurd (z_ge h22 h2 hS.1 (by omega) (by omega)) (by omega)
    · refine z_aload_n (pc := 25) dX4_readFrom_25 rfl ?_
      refine z_getR (pc := 26) 2 q_fX4_51 z_s1 rfl dX4_readFrom_26 ?_
      refine z_iload_n (pc := 29) dX4_readFrom_29 rfl ?_
      refine z_iald (pc := 30) (p) z_s2 ⟨h2, by omega, by decide⟩ dX4_readFrom_30 ?_
      refine z_istore_n (pc := 31) dX4_readFrom_31 rfl (by decide) ?_
      refine z_iload_n (pc := 32) dX4_readFrom_32 rfl ?_
      refine z_bipush (pc := 33) (v := 78) dX4_readFrom_33 (by decide) ?_
      refine z_icmp_ne (pc := 35) (tgt := 56) dX4_readFrom_35 (by decide) (fun h35 => ?_) (fun h35 => ?_)
      · refine z_iload_n (pc := 56) dX4_readFrom_56 rfl ?_
        refine z_bipush (pc := 57) (v := 87) dX4_readFrom_57 (by decide) ?_
        refine z_icmp_ne (pc := 59) (tgt := 115) dX4_readFrom_59 (by decide) (fun h59 => ?_) (fun h59 => ?_)
        · refine z_iload_n (pc := 115) dX4_readFrom_115 rfl ?_
          refine z_bipush (pc := 116) (v := 68) dX4_readFrom_116 (by decide) ?_
          refine z_icmp_ne (pc := 118) (tgt := 171) dX4_readFrom_118 (by decide) (fun h118 => ?_) (fun h118 => ?_)
          · exact absurd (hlp.trans cD) h118
          · refine z_aload_n (pc := 121) dX4_readFrom_121 rfl ?_
            refine z_getI (pc := 122) q_fX4_37 z_s3 rfl dX4_readFrom_122 ?_
            refine z_iconst (pc := 125) (v := 3) dX4_readFrom_125 (by decide) ?_
            refine z_icmp_ge (pc := 126) (tgt := 171) dX4_readFrom_126 (by decide) (fun h126 => ?_) (fun h126 => ?_)
            · exact absurd h126 (by rw [hC.1]; exact nI_ge (b := 3) hc3 (by decide))
            · refine z_aload_n (pc := 129) dX4_readFrom_129 rfl ?_
              refine z_getR (pc := 130) 10 q_fX4_40 z_s3 rfl dX4_readFrom_130 ?_
              refine z_aload_n (pc := 133) dX4_readFrom_133 rfl ?_
              refine z_getI (pc := 134) q_fX4_37 z_s3 rfl dX4_readFrom_134 ?_
              refine z_aload_n (pc := 137) dX4_readFrom_137 rfl ?_
              refine z_iload_n (pc := 138) dX4_readFrom_138 rfl ?_
              refine z_iconst (pc := 139) (v := 1) dX4_readFrom_139 (by decide) ?_
              refine z_iadd (pc := 140) dX4_readFrom_140 ?_
              refine z_cV1 (pc := 141) (c_X3_figure (p := p + 1) hS (hq 1) (by omega)) (q_cX4_58 _ (by decide)) z_s1 rfl rfl dX4_readFrom_141 ?_
              refine z_iast (pc := 144) (cN l 68 p) z_s10 ⟨hC.1, hc3, by decide⟩ dX4_readFrom_144 ?_
              refine z_aload_n (pc := 145) dX4_readFrom_145 rfl ?_
              refine z_getR (pc := 146) 11 q_fX4_43 z_s3 rfl dX4_readFrom_146 ?_
              refine z_aload_n (pc := 149) dX4_readFrom_149 rfl ?_
              refine z_getI (pc := 150) q_fX4_37 z_s3 rfl dX4_readFrom_150 ?_
              refine z_aload_n (pc := 153) dX4_readFrom_153 rfl ?_
              refine z_iload_n (pc := 154) dX4_readFrom_154 rfl ?_
              refine z_iconst (pc := 155) (v := 2) dX4_readFrom_155 (by decide) ?_
              refine z_iadd (pc := 156) dX4_readFrom_156 ?_
              refine z_cV1 (pc := 157) (c_X3_figure (p := p + 2) (ScAt_sb hS (Sb.set (ids := [10]) _ (by simp)) (by simp) (by simp)) (hq 2) (by omega)) (q_cX4_58 _ (by decide)) z_s1 rfl rfl dX4_readFrom_157 ?_
              refine z_iast (pc := 160) (cN l 68 p) z_s11 ⟨s1 _, hc3, by decide⟩ dX4_readFrom_160 ?_
              refine z_aload_n (pc := 161) dX4_readFrom_161 rfl ?_
              refine z_dup (pc := 162) dX4_readFrom_162 rfl ?_
              refine z_getI (pc := 163) q_fX4_37 z_s3 rfl dX4_readFrom_163 ?_
              refine z_iconst (pc := 166) (v := 1) dX4_readFrom_166 (by decide) ?_
              refine z_iadd (pc := 167) dX4_readFrom_167 ?_
              refine z_putI (pc := 168) q_fX4_37 q_p4_8 z_s3 rfl dX4_readFrom_168 ?_
              refine z_iinc (pc := 171) dX4_readFrom_171 rfl rfl rfl (by decide) ?_
              refine z_goto (pc := 174) (tgt := 17) dX4_readFrom_174 (by decide) ?_
              rw [s2, ← nI_succ]
              refine z_drop 3 ?_
              exact hsm
        · exact absurd (hlp.symm.trans (by simpa using h59)) cW
      · exact absurd (hlp.symm.trans (by simpa using h35)) cN'
  · obtain ⟨M2, hsm, r1, r2, r3, r4⟩ := s_X4_readFrom_17 hV hS (p + 1) (by omega) (by omega) (ij + Int32.ofInt 1) Mj (z_n1 h2) (RdA_no hA cN' ⟨rfl, rfl, rfl, rfl, rfl⟩) (RdB_no hB cW ⟨rfl, rfl, rfl⟩) (RdC_no hC cD ⟨rfl, rfl, rfl⟩)
    refine ⟨M2, ?_, r1, r2, r3, r4⟩
    refine z_iload_n (pc := 17) dX4_readFrom_17 rfl ?_
    refine z_aload_n (pc := 18) dX4_readFrom_18 rfl ?_
    refine z_getI (pc := 19) q_fX4_46 z_s1 rfl dX4_readFrom_19 ?_
    refine z_icmp_ge (pc := 22) (tgt := 177) dX4_readFrom_22 (by decide) (fun h22 => ?_) (fun h22 => ?_)
    · exact absurd (z_ge h22 h2 hS.1 (by omega) (by omega)) (by omega)
    · refine z_aload_n (pc := 25) dX4_readFrom_25 rfl ?_
      refine z_getR (pc := 26) 2 q_fX4_51 z_s1 rfl dX4_readFrom_26 ?_
      refine z_iload_n (pc := 29) dX4_readFrom_29 rfl ?_
      refine z_iald (pc := 30) (p) z_s2 ⟨h2, by omega, by decide⟩ dX4_readFrom_30 ?_
      refine z_istore_n (pc := 31) dX4_readFrom_31 rfl (by decide) ?_
      refine z_iload_n (pc := 32) dX4_readFrom_32 rfl ?_
      refine z_bipush (pc := 33) (v := 78) dX4_readFrom_33 (by decide) ?_
      refine z_icmp_ne (pc := 35) (tgt := 56) dX4_readFrom_35 (by decide) (fun h35 => ?_) (fun h35 => ?_)
      · refine z_iload_n (pc := 56) dX4_readFrom_56 rfl ?_
        refine z_bipush (pc := 57) (v := 87) dX4_readFrom_57 (by decide) ?_
        refine z_icmp_ne (pc := 59) (tgt := 115) dX4_readFrom_59 (by decide) (fun h59 => ?_) (fun h59 => ?_)
        · refine z_iload_n (pc := 115) dX4_readFrom_115 rfl ?_
          refine z_bipush (pc := 116) (v := 68) dX4_readFrom_116 (by decide) ?_
          refine z_icmp_ne (pc := 118) (tgt := 171) dX4_readFrom_118 (by decide) (fun h118 => ?_) (fun h118 => ?_)
          · refine z_iinc (pc := 171) dX4_readFrom_171 rfl rfl rfl (by decide) ?_
            refine z_goto (pc := 174) (tgt := 17) dX4_readFrom_174 (by decide) ?_
            refine z_drop 3 ?_
            exact hsm
          · exact absurd (hlp.symm.trans (by simpa using h118)) cD
        · exact absurd (hlp.symm.trans (by simpa using h59)) cW
      · exact absurd (hlp.symm.trans (by simpa using h35)) cN'
termination_by n - p
decreasing_by all_goals omega
end
section
theorem VP.go {l : Nat → Int32} {n q : Nat} (hv : VP l n q) (c : Int32) (hc : l q = c) (h0 : ¬ sz c = 0) (d : Nat) (hd : 0 < d) (hd2 : d < sz c) : q + d < n ∧ okG l n q (q + d) = true := by
  subst hc
  exact (hv h0).2 (q + d) (by omega) (by omega)
/-- what a town out of a text without a fault keeps to -/
def wfT (T : TT) (U : UT) (D : DT) : Prop := (T.1 ≤ 7 ∧ ∀ k, k < T.1 → T.2.1 k < 6 ∧ T.2.2.1 k < 6 ∧ T.2.1 k ≠ T.2.2.1 k) ∧ (U.1 ≤ 4 ∧ ∀ k, k < U.1 → U.2.1 k < 6) ∧ (D.1 ≤ 3 ∧ ∀ k, k < D.1 → D.2.1 k < 6 ∧ D.2.2 k < 6 ∧ D.2.1 k ≠ D.2.2 k)
theorem fa_wf {l : Nat → Int32} {n : Nat} (hV : ∀ q, 1 ≤ q → q < n → VP l n q) : wfT (twP l n) (twU l n) (twD l n) ∧ (∀ k, k < cN l 78 n → fg l n (nP l 78 n k + 1) = nI ((twP l n).2.1 k) ∧ fg l n (nP l 78 n k + 2) = nI ((twP l n).2.2.1 k)) ∧ (∀ k, k < cN l 87 n → fg l n (nP l 87 n k + 1) = nI ((twU l n).2.1 k)) ∧ (∀ k, k < cN l 68 n → fg l n (nP l 68 n k + 1) = nI ((twD l n).2.1 k) ∧ fg l n (nP l 68 n k + 2) = nI ((twD l n).2.2 k)) := by
  have hA : ∀ k, k < cN l 78 n → (fg l n (nP l 78 n k + 1) = nI (fgN l n (nP l 78 n k + 1)) ∧ fgN l n (nP l 78 n k + 1) < 6) ∧ (fg l n (nP l 78 n k + 2) = nI (fgN l n (nP l 78 n k + 2)) ∧ fgN l n (nP l 78 n k + 2) < 6 ∧ ¬ fg l n (nP l 78 n k + 2) = fg l n (nP l 78 n k + 1)) := fun k hk => by
    obtain ⟨h1, h2, h3⟩ := nP_at n k hk
    have hv := hV _ h1 h2
    exact ⟨okG_1 (hv.go 78 h3 (by decide) 1 (by decide) (by decide)).2, okG_2 (by rw [h3]; decide) (hv.go 78 h3 (by decide) 2 (by decide) (by decide)).2⟩
  have hB : ∀ k, k < cN l 87 n → (fg l n (nP l 87 n k + 1) = nI (fgN l n (nP l 87 n k + 1)) ∧ fgN l n (nP l 87 n k + 1) < 6) := fun k hk => by
    obtain ⟨h1, h2, h3⟩ := nP_at n k hk
    exact okG_1 ((hV _ h1 h2).go 87 h3 (by decide) 1 (by decide) (by decide)).2
  have hC : ∀ k, k < cN l 68 n → (fg l n (nP l 68 n k + 1) = nI (fgN l n (nP l 68 n k + 1)) ∧ fgN l n (nP l 68 n k + 1) < 6) ∧ (fg l n (nP l 68 n k + 2) = nI (fgN l n (nP l 68 n k + 2)) ∧ fgN l n (nP l 68 n k + 2) < 6 ∧ ¬ fg l n (nP l 68 n k + 2) = fg l n (nP l 68 n k + 1)) := fun k hk => by
    obtain ⟨h1, h2, h3⟩ := nP_at n k hk
    have hv := hV _ h1 h2
    exact ⟨okG_1 (hv.go 68 h3 (by decide) 1 (by decide) (by decide)).2, okG_2 (by rw [h3]; decide) (hv.go 68 h3 (by decide) 2 (by decide) (by decide)).2⟩
  refine ⟨⟨⟨cN_most (by decide) hV n (Nat.le_refl n), fun k hk => ?_⟩, ⟨cN_most (by decide) hV n (Nat.le_refl n), fun k hk => (hB k hk).2⟩, ⟨cN_most (by decide) hV n (Nat.le_refl n), fun k hk => ?_⟩⟩, fun k hk => ⟨(hA k hk).1.1, (hA k hk).2.1⟩, fun k hk => (hB k hk).1, fun k hk => ⟨(hC k hk).1.1, (hC k hk).2.1⟩⟩
  · obtain ⟨⟨a1, a2⟩, b1, b2, b3⟩ := hA k hk
    exact ⟨a2, b2, fun e => b3 (by rw [b1, a1]; exact congrArg nI e.symm)⟩
  · obtain ⟨⟨a1, a2⟩, b1, b2, b3⟩ := hC k hk
    exact ⟨a2, b2, fun e => b3 (by rw [b1, a1]; exact congrArg nI e.symm)⟩
set_option maxRecDepth 100000 in
set_option maxHeartbeats 400000 in
theorem c_X4_readFrom {M : z_Mem} {l : Nat → Int32} {n : Nat} (hS : ScAt M l n) (hf : faF l n = -9) : ∃ M1, z_Ct mX4_readFrom [.ref 3, .ref 1] M none M1 ∧ TK M1 (twP l n) ∧ UK M1 (twU l n) ∧ DK M1 (twD l n) ∧ Sb [3, 4, 5, 6, 7, 8, 9, 10, 11] M M1 := by
  obtain ⟨hn1, hV⟩ := faF_ok hS.2.1 hf
  have hs0 : Sb [3, 4, 5, 6, 7, 8, 9, 10, 11] M (z_set (z_set (z_set M 3 0 0) 3 5 0) 3 8 0) := ((Sb.set _ (by simp)).tr (Sb.set _ (by simp))).tr (Sb.set _ (by simp))
  have e1 : ∀ c, cN l c 1 = 0 := fun c => by rw [cN, cN, if_neg (fun q => absurd q.1 (by decide))]
  obtain ⟨M1, hsm, ⟨a1, a2⟩, ⟨b1, b2⟩, ⟨c1, c2⟩, hs⟩ := s_X4_readFrom_17 hV (ScAt_sb hS hs0 (by simp) (by simp)) 1 (Nat.le_refl 1) hn1 1 (z_set (z_set (z_set M 3 0 0) 3 5 0) 3 8 0) rfl
    ⟨by rw [e1]; simp [z_set, z_row, upd, nI_0], fun k hk => by rw [e1] at hk; omega⟩ ⟨by rw [e1]; simp [z_set, z_row, upd, nI_0], fun k hk => by rw [e1] at hk; omega⟩ ⟨by rw [e1]; simp [z_set, z_row, upd, nI_0], fun k hk => by rw [e1] at hk; omega⟩
  obtain ⟨⟨w1, w2, w3⟩, f1, f2, f3⟩ := fa_wf hV
  refine ⟨M1, ?_, ⟨⟨a1, w1.1, fun k hk => ?_⟩, fun k hk => ⟨(a2 k hk).2.2.1, (a2 k hk).2.2.2⟩⟩, ⟨b1, w2.1, fun k hk => ⟨(b2 k hk).1.trans (f2 k hk), w2.2 k hk, (b2 k hk).2⟩⟩, ⟨c1, w3.1, fun k hk => ⟨(c2 k hk).1.trans (f3 k hk).1, (c2 k hk).2.trans (f3 k hk).2, (w3.2 k hk).1, (w3.2 k hk).2.1⟩⟩, hs0.tr hs⟩
  · refine z_entry (by decide +kernel) (Nat.le_of_ble_eq_true rfl) rfl ?_
    show z_Sm mX4_readFrom _ _ 0 [some (.ref 3), some (.ref 1), none, none] [] M
    refine z_aload_n (pc := 0) dX4_readFrom_0 rfl ?_
    refine z_iconst (pc := 1) (v := 0) dX4_readFrom_1 (by decide) ?_
    refine z_putI (pc := 2) q_fX4_9 q_p4_0 z_s3 rfl dX4_readFrom_2 ?_
    refine z_aload_n (pc := 5) dX4_readFrom_5 rfl ?_
    refine z_iconst (pc := 6) (v := 0) dX4_readFrom_6 (by decide) ?_
    refine z_putI (pc := 7) q_fX4_28 q_p4_5 z_s3 rfl dX4_readFrom_7 ?_
    refine z_aload_n (pc := 10) dX4_readFrom_10 rfl ?_
    refine z_iconst (pc := 11) (v := 0) dX4_readFrom_11 (by decide) ?_
    refine z_putI (pc := 12) q_fX4_37 q_p4_8 z_s3 rfl dX4_readFrom_12 ?_
    refine z_iconst (pc := 15) (v := 1) dX4_readFrom_15 (by decide) ?_
    refine z_istore_n (pc := 16) dX4_readFrom_16 rfl (by decide) ?_
    exact hsm
  · exact ⟨(a2 k hk).1.trans (f1 k hk).1, (a2 k hk).2.1.trans (f1 k hk).2, (w1.2 k hk).1, (w1.2 k hk).2.1⟩
/-! ===== the class's cells as one state ===== -/
/-- a slot -/
def KpAt (M : z_Mem) (s : Nat) : Option PLt → Prop
  | none => M.1 53 s = 0
  | some pl => M.1 53 s = 1 ∧ PlAt M (49 + 2 * s) pl
theorem KpAt_sb {ids : List Nat} {M N : z_Mem} {s : Nat} {k : Option PLt} (h : KpAt M s k) (sb : Sb ids M N) (h53 : 53 ∉ ids) (h1 : 49 + 2 * s ∉ ids) (h2 : 49 + 2 * s + 1 ∉ ids) : KpAt N s k := by
  cases k with
  | none => exact (congrFun (sb.1 53 h53) s).trans h
  | some pl => exact ⟨(congrFun (sb.1 53 h53) s).trans h.1, PlAt_sb h.2 sb h1 h2⟩
def RX (M : z_Mem) (l : Nat → Int32) (n : Nat) (T : TT) (U : UT) (D : DT) (p : PLt) (A : List PLt) (k0 k1 : Option PLt) (L : List (Int32 × Int32)) (sd : Int64) : Prop :=
  ScAt M l n ∧ TK M T ∧ UK M U ∧ DK M D ∧ PlAt M 14 p ∧ AcAt M A ∧ KpAt M 0 k0 ∧ KpAt M 1 k1 ∧ TrAt M L ∧ M.2 0 11 = sd
/-- what the other side's cells hold stays -/
def Fx (M N : z_Mem) : Prop := ∀ i, 59 ≤ i → N.1 i = M.1 i ∧ N.2 i = M.2 i
theorem Fx.rf {M : z_Mem} : Fx M M := fun _ _ => ⟨rfl, rfl⟩
theorem Fx.tr {M N K : z_Mem} (h : Fx M N) (h2 : Fx N K) : Fx M K := fun i hi => ⟨(h2 i hi).1.trans (h i hi).1, (h2 i hi).2.trans (h i hi).2⟩
theorem Sb.fx {ids : List Nat} {M N : z_Mem} (s : Sb ids M N) (hi : ∀ i ∈ ids, i < 59) : Fx M N := fun i h => ⟨s.1 i (fun q => by have := hi i q; omega), by rw [s.2]⟩
/-- the rows that only think change: the state stays -/
theorem RX_th {ids : List Nat} {M N : z_Mem} {l : Nat → Int32} {n : Nat} {T : TT} {U : UT} {D : DT} {p : PLt} {A : List PLt} {k0 k1 : Option PLt} {L : List (Int32 × Int32)} {sd : Int64} (h : RX M l n T U D p A k0 k1 L sd) (s : Sb ids M N) (hi : ∀ i ∈ ids, i = 13 ∨ i = 16 ∨ i = 17 ∨ i = 57 ∨ i = 58) : RX N l n T U D p A k0 k1 L sd := by
  obtain ⟨h1, h2, h3, h4, h5, h6, h7, h8, h9, h10⟩ := h
  have no : ∀ i, i ≠ 13 → i ≠ 16 → i ≠ 17 → i ≠ 57 → i ≠ 58 → i ∉ ids := fun i a b c d e q => by have := hi i q; omega
  exact ⟨ScAt_sb h1 s (no _ (by decide) (by decide) (by decide) (by decide) (by decide)) (no _ (by decide) (by decide) (by decide) (by decide) (by decide)), TK_sb h2 s (fun i q => by have := hi i q; omega), UK_sb h3 s (no _ (by decide) (by decide) (by decide) (by decide) (by decide)) (no _ (by decide) (by decide) (by decide) (by decide) (by decide)) (no _ (by decide) (by decide) (by decide) (by decide) (by decide)), DK_sb h4 s (no _ (by decide) (by decide) (by decide) (by decide) (by decide)) (no _ (by decide) (by decide) (by decide) (by decide) (by decide)) (no _ (by decide) (by decide) (by decide) (by decide) (by decide)),
    PlAt_sb h5 s (no _ (by decide) (by decide) (by decide) (by decide) (by decide)) (no _ (by decide) (by decide) (by decide) (by decide) (by decide)), AcAt_sb h6 s (fun i q => by have := hi i q; omega), KpAt_sb h7 s (no _ (by decide) (by decide) (by decide) (by decide) (by decide)) (no _ (by decide) (by decide) (by decide) (by decide) (by decide)) (no _ (by decide) (by decide) (by decide) (by decide) (by decide)), KpAt_sb h8 s (no _ (by decide) (by decide) (by decide) (by decide) (by decide)) (no _ (by decide) (by decide) (by decide) (by decide) (by decide)) (no _ (by decide) (by decide) (by decide) (by decide) (by decide)),
    TrAt_sb h9 s (no _ (by decide) (by decide) (by decide) (by decide) (by decide)) (no _ (by decide) (by decide) (by decide) (by decide) (by decide)) (no _ (by decide) (by decide) (by decide) (by decide) (by decide)), by rw [s.2]; exact h10⟩
/-- the plight that is and the row of acts change -/
theorem RX_mid {ids : List Nat} {M N : z_Mem} {l : Nat → Int32} {n : Nat} {T : TT} {U : UT} {D : DT} {p q : PLt} {A B : List PLt} {k0 k1 : Option PLt} {L : List (Int32 × Int32)} {sd : Int64} (h : RX M l n T U D p A k0 k1 L sd) (s : Sb ids M N) (hi : ∀ i ∈ ids, 12 < i ∧ i < 48) (hq : PlAt N 14 q) (hB : AcAt N B) : RX N l n T U D q B k0 k1 L sd := by
  obtain ⟨h1, h2, h3, h4, h5, h6, h7, h8, h9, h10⟩ := h
  have no : ∀ i, (i ≤ 12 ∨ 48 ≤ i) → i ∉ ids := fun i a q => by have := hi i q; omega
  exact ⟨ScAt_sb h1 s (no _ (by decide)) (no _ (by decide)), TK_sb h2 s (fun i q => by have := hi i q; omega), UK_sb h3 s (no _ (by decide)) (no _ (by decide)) (no _ (by decide)), DK_sb h4 s (no _ (by decide)) (no _ (by decide)) (no _ (by decide)), hq, hB, KpAt_sb h7 s (no _ (by decide)) (no _ (by decide)) (no _ (by decide)), KpAt_sb h8 s (no _ (by decide)) (no _ (by decide)) (no _ (by decide)), TrAt_sb h9 s (no _ (by decide)) (no _ (by decide)) (no _ (by decide)), by rw [s.2]; exact h10⟩
theorem z_ring_lt : ∀ i ∈ z_ring, 17 < i ∧ i < 48 := by decide
/-- a number of a thing, of a pin -/
def thg (x : Int32) : Bool := !decide (x < 0) && decide (x < 6)
def pnB (x : Int32) (P : Nat) : Bool := !decide (x < 0) && decide (x < nI P)
theorem thg_at {x : Int32} (h : thg x = true) : x.toNatClampNeg < 6 ∧ x = nI x.toNatClampNeg := by
  simp only [thg, Bool.and_eq_true, Bool.not_eq_true', decide_eq_true_eq, decide_eq_false_iff_not] at h
  obtain ⟨j, hj, e⟩ := nI_of h.1
  have := h.2
  rw [e] at this ⊢
  rw [nI_clamp hj]
  exact ⟨(nI_ltI (b := 6) hj (by decide)).mp this, rfl⟩
theorem pnB_at {x : Int32} {P : Nat} (hP : P ≤ 7) (h : pnB x P = true) : x.toNatClampNeg < P ∧ x = nI x.toNatClampNeg := by
  simp only [pnB, Bool.and_eq_true, Bool.not_eq_true', decide_eq_true_eq, decide_eq_false_iff_not] at h
  obtain ⟨j, hj, e⟩ := nI_of h.1
  have := h.2
  rw [e] at this ⊢
  rw [nI_clamp hj]
  exact ⟨(nI_ltI hj (by omega)).mp this, rfl⟩
def rfF (x y : Int32) : Int32 := if thg x && thg y then (if x = y then -2 else 0) else -1
set_option maxRecDepth 100000 in
set_option maxHeartbeats 400000 in
theorem c_X6_isThing {M : z_Mem} {x : Int32} : z_Ct mX6_isThing [.int x] M (some (.int (if thg x then 1 else 0))) M := by
  refine z_entry (by decide +kernel) (Nat.le_of_ble_eq_true rfl) rfl ?_
  show z_Sm mX6_isThing _ _ 0 [some (.int x)] [] M
  refine z_iload_n (pc := 0) dX6_isThing_0 rfl ?_
  refine z_if_lt (pc := 1) (tgt := 14) dX6_isThing_1 (by decide) (fun h1 => ?_) (fun h1 => ?_)
  · refine z_iconst (pc := 14) (v := 0) dX6_isThing_14 (by decide) ?_
    refine z_zret (pc := 15) rfl dX6_isThing_15 ?_ ?_ ?_
    · rfl
    · rw [thg, decide_eq_true h1]; rfl
    · rfl
  · refine z_iload_n (pc := 4) dX6_isThing_4 rfl ?_
    refine z_bipush (pc := 5) (v := 6) dX6_isThing_5 (by decide) ?_
    refine z_icmp_ge (pc := 7) (tgt := 14) dX6_isThing_7 (by decide) (fun h7 => ?_) (fun h7 => ?_)
    · refine z_iconst (pc := 14) (v := 0) dX6_isThing_14 (by decide) ?_
      refine z_zret (pc := 15) rfl dX6_isThing_15 ?_ ?_ ?_
      · rfl
      · rw [thg, decide_eq_false (Int32.not_lt.mpr h7)]; simp
      · rfl
    · refine z_iconst (pc := 10) (v := 1) dX6_isThing_10 (by decide) ?_
      refine z_goto (pc := 11) (tgt := 15) dX6_isThing_11 (by decide) ?_
      refine z_zret (pc := 15) rfl dX6_isThing_15 ?_ ?_ ?_
      · rfl
      · rw [thg, decide_eq_false h1, decide_eq_true (Int32.not_le.mp h7)]; rfl
      · rfl
set_option maxRecDepth 100000 in
set_option maxHeartbeats 400000 in
theorem c_X6_isPin {M : z_Mem} {P : Nat} (hP : M.1 3 0 = nI P) {x : Int32} : z_Ct mX6_isPin [.ref 0, .int x] M (some (.int (if pnB x P then 1 else 0))) M := by
  refine z_entry (by decide +kernel) (Nat.le_of_ble_eq_true rfl) rfl ?_
  show z_Sm mX6_isPin _ _ 0 [some (.ref 0), some (.int x)] [] M
  refine z_iload_n (pc := 0) dX6_isPin_0 rfl ?_
  refine z_if_lt (pc := 1) (tgt := 19) dX6_isPin_1 (by decide) (fun h1 => ?_) (fun h1 => ?_)
  · refine z_iconst (pc := 19) (v := 0) dX6_isPin_19 (by decide) ?_
    refine z_zret (pc := 20) rfl dX6_isPin_20 ?_ ?_ ?_
    · rfl
    · rw [pnB, decide_eq_true h1]; rfl
    · rfl
  · refine z_iload_n (pc := 4) dX6_isPin_4 rfl ?_
    refine z_aload_n (pc := 5) dX6_isPin_5 rfl ?_
    refine z_getR (pc := 6) 3 q_fX6_19 z_s0 rfl dX6_isPin_6 ?_
    refine z_getI (pc := 9) q_fX6_97 z_s3 rfl dX6_isPin_9 ?_
    refine z_icmp_ge (pc := 12) (tgt := 19) dX6_isPin_12 (by decide) (fun h12 => ?_) (fun h12 => ?_)
    · refine z_iconst (pc := 19) (v := 0) dX6_isPin_19 (by decide) ?_
      refine z_zret (pc := 20) rfl dX6_isPin_20 ?_ ?_ ?_
      · rfl
      · rw [hP] at h12
        rw [pnB, decide_eq_false (Int32.not_lt.mpr h12)]; simp
      · rfl
    · refine z_iconst (pc := 15) (v := 1) dX6_isPin_15 (by decide) ?_
      refine z_goto (pc := 16) (tgt := 20) dX6_isPin_16 (by decide) ?_
      refine z_zret (pc := 20) rfl dX6_isPin_20 ?_ ?_ ?_
      · rfl
      · rw [hP] at h12
        rw [pnB, decide_eq_false h1, decide_eq_true (Int32.not_le.mp h12)]; rfl
      · rfl
theorem z_t {b : Bool} (h : ¬ (if b then (1 : Int32) else 0) = 0) : b = true := by
  cases b
  · exact absurd rfl h
  · rfl
theorem z_f {b : Bool} (h : (if b then (1 : Int32) else 0) = 0) : b = false := by
  cases b
  · rfl
  · exact absurd h (by decide)
theorem z_nn {a b : Int32} (h : ¬ ¬ a = b) : a = b := Classical.not_not.mp h
set_option maxRecDepth 100000 in
set_option maxHeartbeats 400000 in
theorem c_X6_refusalOfTwo {M : z_Mem} {x y : Int32} : z_Ct mX6_refusalOfTwo [.int x, .int y] M (some (.int (rfF x y))) M := by
  refine z_entry (by decide +kernel) (Nat.le_of_ble_eq_true rfl) rfl ?_
  show z_Sm mX6_refusalOfTwo _ _ 0 [some (.int x), some (.int y)] [] M
  refine z_iload_n (pc := 0) dX6_refusalOfTwo_0 rfl ?_
  refine z_cS1 (pc := 1) c_X6_isThing (q_cX6_132 _ (by decide)) rfl dX6_refusalOfTwo_1 ?_
  refine z_if_eq (pc := 4) (tgt := 14) dX6_refusalOfTwo_4 (by decide) (fun h4 => ?_) (fun h4 => ?_)
  · refine z_iconst (pc := 14) (v := (-1)) dX6_refusalOfTwo_14 (by decide) ?_
    refine z_iret (pc := 15) rfl dX6_refusalOfTwo_15 ?_ ?_
    · rw [rfF, z_f h4]; rfl
    · rfl
  · refine z_iload_n (pc := 7) dX6_refusalOfTwo_7 rfl ?_
    refine z_cS1 (pc := 8) c_X6_isThing (q_cX6_132 _ (by decide)) rfl dX6_refusalOfTwo_8 ?_
    refine z_if_ne (pc := 11) (tgt := 16) dX6_refusalOfTwo_11 (by decide) (fun h11 => ?_) (fun h11 => ?_)
    · refine z_iload_n (pc := 16) dX6_refusalOfTwo_16 rfl ?_
      refine z_iload_n (pc := 17) dX6_refusalOfTwo_17 rfl ?_
      refine z_icmp_ne (pc := 18) (tgt := 26) dX6_refusalOfTwo_18 (by decide) (fun h18 => ?_) (fun h18 => ?_)
      · refine z_iconst (pc := 26) (v := 0) dX6_refusalOfTwo_26 (by decide) ?_
        refine z_iret (pc := 27) rfl dX6_refusalOfTwo_27 ?_ ?_
        · rw [rfF, z_t h4, z_t h11, if_pos (by rfl), if_neg h18]
        · rfl
      · refine z_bipush (pc := 21) (v := (-2)) dX6_refusalOfTwo_21 (by decide) ?_
        refine z_goto (pc := 23) (tgt := 27) dX6_refusalOfTwo_23 (by decide) ?_
        refine z_iret (pc := 27) rfl dX6_refusalOfTwo_27 ?_ ?_
        · rw [rfF, z_t h4, z_t h11, if_pos (by rfl), if_pos h18]
        · rfl
    · refine z_iconst (pc := 14) (v := (-1)) dX6_refusalOfTwo_14 (by decide) ?_
      refine z_iret (pc := 15) rfl dX6_refusalOfTwo_15 ?_ ?_
      · have h11 := z_f h11
        rw [rfF, h11]; simp
      · rfl
end
section
set_option maxRecDepth 100000 in
set_option maxHeartbeats 400000 in
theorem o_X6_write_no {M : z_Mem} {l : Nat → Int32} {n : Nat} {T : TT} {U : UT} {D : DT} {p : PLt} {A : List PLt} {k0 k1 : Option PLt} {L : List (Int32 × Int32)} {sd : Int64} (hR : RX M l n T U D p A k0 k1 L sd) {x : Int32} (h : (x < 0 ∨ 255 < x) ∨ 60 ≤ n) : z_Ct mX6_write [.ref 0, .int x] M (some (.int (if x < 0 ∨ 255 < x then -2 else -4))) M := by
  obtain ⟨rS, rT, rU, rD, rp, rA, r0, r1, rL, rs⟩ := id hR

  refine z_entry (by decide +kernel) (Nat.le_of_ble_eq_true rfl) rfl ?_
  show z_Sm mX6_write _ _ 0 [some (.ref 0), some (.int x)] [] M
  refine z_iload_n (pc := 0) dX6_write_0 rfl ?_
  refine z_if_lt (pc := 1) (tgt := 11) dX6_write_1 (by decide) (fun h1 => ?_) (fun h1 => ?_)
  · refine z_bipush (pc := 11) (v := (-2)) dX6_write_11 (by decide) ?_
    refine z_iret (pc := 13) rfl dX6_write_13 ?_ ?_
    · exact (if_pos (Or.inl h1)).symm
    · rfl
  · refine z_iload_n (pc := 4) dX6_write_4 rfl ?_
    refine z_sipush (pc := 5) (v := 255) dX6_write_5 (by decide) ?_
    refine z_icmp_le (pc := 8) (tgt := 14) dX6_write_8 (by decide) (fun h8 => ?_) (fun h8 => ?_)
    · refine z_aload_n (pc := 14) dX6_write_14 rfl ?_
      refine z_getR (pc := 15) 1 q_fX6_10 z_s0 rfl dX6_write_15 ?_
      refine z_getI (pc := 18) q_fX6_75 z_s1 rfl dX6_write_18 ?_
      refine z_bipush (pc := 21) (v := 60) dX6_write_21 (by decide) ?_
      refine z_icmp_lt (pc := 23) (tgt := 29) dX6_write_23 (by decide) (fun h23 => ?_) (fun h23 => ?_)
      · exfalso
        rw [rS.1] at h23
        rcases h with (h | h) | h
        · exact h1 h
        · exact (Int32.not_lt.mpr h8) h
        · exact (nI_nlt (b := 60) h (by have := rS.2.1; omega)) h23
      · refine z_bipush (pc := 26) (v := (-4)) dX6_write_26 (by decide) ?_
        refine z_iret (pc := 28) rfl dX6_write_28 ?_ ?_
        · exact (if_neg (fun q => q.elim h1 (Int32.not_lt.mpr h8))).symm
        · rfl
    · refine z_bipush (pc := 11) (v := (-2)) dX6_write_11 (by decide) ?_
      refine z_iret (pc := 13) rfl dX6_write_13 ?_ ?_
      · exact (if_pos (Or.inr (Int32.not_le.mp h8))).symm
      · rfl
set_option maxRecDepth 100000 in
set_option maxHeartbeats 400000 in
theorem o_X6_write {M : z_Mem} {l : Nat → Int32} {n : Nat} {T : TT} {U : UT} {D : DT} {p : PLt} {A : List PLt} {k0 k1 : Option PLt} {L : List (Int32 × Int32)} {sd : Int64} (hR : RX M l n T U D p A k0 k1 L sd) {x : Int32} (h : ¬ (x < 0 ∨ 255 < x)) (hn : n < 60) : ∃ M1, z_Ct mX6_write [.ref 0, .int x] M (some (.int (nI (n + 1)))) M1 ∧ RX M1 (upd l n x) (n + 1) T U D p A k0 k1 L sd ∧ Fx M M1 := by
  obtain ⟨rS, rT, rU, rD, rp, rA, r0, r1, rL, rs⟩ := id hR
  obtain ⟨N, hc, hN, hs⟩ := c_X3_add rS hn (x := x)
  refine ⟨N, ?_, ?_, ?_⟩
  · refine z_entry (by decide +kernel) (Nat.le_of_ble_eq_true rfl) rfl ?_
    show z_Sm mX6_write _ _ 0 [some (.ref 0), some (.int x)] [] M
    refine z_iload_n (pc := 0) dX6_write_0 rfl ?_
    refine z_if_lt (pc := 1) (tgt := 11) dX6_write_1 (by decide) (fun h1 => ?_) (fun h1 => ?_)
    · exact absurd (Or.inl h1) h
    · refine z_iload_n (pc := 4) dX6_write_4 rfl ?_
      refine z_sipush (pc := 5) (v := 255) dX6_write_5 (by decide) ?_
      refine z_icmp_le (pc := 8) (tgt := 14) dX6_write_8 (by decide) (fun h8 => ?_) (fun h8 => ?_)
      · refine z_aload_n (pc := 14) dX6_write_14 rfl ?_
        refine z_getR (pc := 15) 1 q_fX6_10 z_s0 rfl dX6_write_15 ?_
        refine z_getI (pc := 18) q_fX6_75 z_s1 rfl dX6_write_18 ?_
        refine z_bipush (pc := 21) (v := 60) dX6_write_21 (by decide) ?_
        refine z_icmp_lt (pc := 23) (tgt := 29) dX6_write_23 (by decide) (fun h23 => ?_) (fun h23 => ?_)
        · refine z_aload_n (pc := 29) dX6_write_29 rfl ?_
          refine z_getR (pc := 30) 1 q_fX6_10 z_s0 rfl dX6_write_30 ?_
          refine z_iload_n (pc := 33) dX6_write_33 rfl ?_
          refine z_cV1v (pc := 34) hc (q_cX6_79 _ (by decide)) z_s1 rfl rfl dX6_write_34 ?_
          refine z_aload_n (pc := 37) dX6_write_37 rfl ?_
          refine z_getR (pc := 38) 1 q_fX6_10 z_s0 rfl dX6_write_38 ?_
          refine z_getI (pc := 41) q_fX6_75 z_s1 rfl dX6_write_41 ?_
          refine z_iret (pc := 44) rfl dX6_write_44 ?_ ?_
          · exact hN.1
          · rfl
        · exact absurd (by rw [rS.1]; exact nI_lt (b := 60) hn (by decide)) h23
      · exact absurd (Or.inr (Int32.not_le.mp h8)) h
  · exact ⟨hN, TK_sb rT hs (by simp), UK_sb rU hs (by simp) (by simp) (by simp), DK_sb rD hs (by simp) (by simp) (by simp), PlAt_sb rp hs (by simp) (by simp), AcAt_sb rA hs (by simp), KpAt_sb r0 hs (by simp) (by simp) (by simp), KpAt_sb r1 hs (by simp) (by simp) (by simp), TrAt_sb rL hs (by simp) (by simp) (by simp), by rw [hs.2]; exact rs⟩
  · exact hs.fx (by simp)
set_option maxRecDepth 100000 in
set_option maxHeartbeats 400000 in
theorem o_X6_wipe {M : z_Mem} {l : Nat → Int32} {n : Nat} {T : TT} {U : UT} {D : DT} {p : PLt} {A : List PLt} {k0 k1 : Option PLt} {L : List (Int32 × Int32)} {sd : Int64} (hR : RX M l n T U D p A k0 k1 L sd)  : ∃ M1, z_Ct mX6_wipe [.ref 0] M (some (.int (nI n))) M1 ∧ RX M1 l 0 T U D p A k0 k1 L sd ∧ Fx M M1 := by
  obtain ⟨rS, rT, rU, rD, rp, rA, r0, r1, rL, rs⟩ := id hR
  have hs : Sb [1] M (z_set M 1 1 0) := Sb.set _ (by simp)
  refine ⟨z_set M 1 1 0, ?_, ?_, ?_⟩
  · refine z_entry (by decide +kernel) (Nat.le_of_ble_eq_true rfl) rfl ?_
    show z_Sm mX6_wipe _ _ 0 [some (.ref 0), none] [] M
    refine z_aload_n (pc := 0) dX6_wipe_0 rfl ?_
    refine z_getR (pc := 1) 1 q_fX6_10 z_s0 rfl dX6_wipe_1 ?_
    refine z_getI (pc := 4) q_fX6_75 z_s1 rfl dX6_wipe_4 ?_
    refine z_istore_n (pc := 7) dX6_wipe_7 rfl (by decide) ?_
    refine z_aload_n (pc := 8) dX6_wipe_8 rfl ?_
    refine z_getR (pc := 9) 1 q_fX6_10 z_s0 rfl dX6_wipe_9 ?_
    refine z_iconst (pc := 12) (v := 0) dX6_wipe_12 (by decide) ?_
    refine z_putI (pc := 13) q_fX6_75 q_p3_1 z_s1 rfl dX6_wipe_13 ?_
    refine z_iload_n (pc := 16) dX6_wipe_16 rfl ?_
    refine z_iret (pc := 17) rfl dX6_wipe_17 ?_ ?_
    · exact rS.1
    · rfl
  · exact ⟨⟨by rw [z_set, z_row_1, upd_1]; rfl, by decide, fun i hi => absurd hi (Nat.not_lt_zero i)⟩, TK_sb rT hs (by simp), UK_sb rU hs (by simp) (by simp) (by simp), DK_sb rD hs (by simp) (by simp) (by simp), PlAt_sb rp hs (by simp) (by simp), AcAt_sb rA hs (by simp), KpAt_sb r0 hs (by simp) (by simp) (by simp), KpAt_sb r1 hs (by simp) (by simp) (by simp), TrAt_sb rL hs (by simp) (by simp) (by simp), rs⟩
  · exact hs.fx (by simp)
set_option maxRecDepth 100000 in
set_option maxHeartbeats 400000 in
theorem o_X6_fault {M : z_Mem} {l : Nat → Int32} {n : Nat} {T : TT} {U : UT} {D : DT} {p : PLt} {A : List PLt} {k0 k1 : Option PLt} {L : List (Int32 × Int32)} {sd : Int64} (hR : RX M l n T U D p A k0 k1 L sd)  : z_Ct mX6_fault [.ref 0] M (some (.int (faF l n))) M := by
  obtain ⟨rS, rT, rU, rD, rp, rA, r0, r1, rL, rs⟩ := id hR

  refine z_entry (by decide +kernel) (Nat.le_of_ble_eq_true rfl) rfl ?_
  show z_Sm mX6_fault _ _ 0 [some (.ref 0)] [] M
  refine z_aload_n (pc := 0) dX6_fault_0 rfl ?_
  refine z_getR (pc := 1) 1 q_fX6_10 z_s0 rfl dX6_fault_1 ?_
  refine z_cV0 (pc := 4) (c_X3_firstFault rS) (q_cX6_83 _ (by decide)) z_s1 rfl rfl dX6_fault_4 ?_
  refine z_iret (pc := 7) rfl dX6_fault_7 ?_ ?_
  · rfl
  · rfl
set_option maxRecDepth 100000 in
set_option maxHeartbeats 400000 in
theorem o_X6_town_no {M : z_Mem} {l : Nat → Int32} {n : Nat} {T : TT} {U : UT} {D : DT} {p : PLt} {A : List PLt} {k0 k1 : Option PLt} {L : List (Int32 × Int32)} {sd : Int64} (hR : RX M l n T U D p A k0 k1 L sd) (h : ¬ faF l n = -9) : z_Ct mX6_town [.ref 0] M (some (.int (-3))) M := by
  obtain ⟨rS, rT, rU, rD, rp, rA, r0, r1, rL, rs⟩ := id hR

  refine z_entry (by decide +kernel) (Nat.le_of_ble_eq_true rfl) rfl ?_
  show z_Sm mX6_town _ _ 0 [some (.ref 0), none] [] M
  refine z_aload_n (pc := 0) dX6_town_0 rfl ?_
  refine z_getR (pc := 1) 1 q_fX6_10 z_s0 rfl dX6_town_1 ?_
  refine z_cV0 (pc := 4) (c_X3_firstFault rS) (q_cX6_83 _ (by decide)) z_s1 rfl rfl dX6_town_4 ?_
  refine z_bipush (pc := 7) (v := (-9)) dX6_town_7 (by decide) ?_
  refine z_icmp_eq (pc := 9) (tgt := 15) dX6_town_9 (by decide) (fun h9 => ?_) (fun h9 => ?_)
  · exact absurd h9 h
  · refine z_bipush (pc := 12) (v := (-3)) dX6_town_12 (by decide) ?_
    refine z_iret (pc := 14) rfl dX6_town_14 ?_ ?_
    · rfl
    · rfl
theorem z_bool0 : vp_nar .boolean (0 : Int32) = 0 := by decide
theorem z_bool1 : vp_nar .boolean (1 : Int32) = 1 := by decide
set_option maxRecDepth 100000 in
set_option maxHeartbeats 400000 in
theorem s_X6_town_42 {M M2 : z_Mem} {r : Option Value}  (kk : z_Sm mX6_town r M2 60 [some (.ref 0), none] [] (z_row M 53 (cpF (2) (fun _ => 0) (M.1 53)))) (j : Nat) (hj : j ≤ 2) (ij : Int32) (Mj : z_Mem) (h2 : ij = nI j) (hM : Mj = z_row M 53 (cpF j (fun _ => 0) (M.1 53))) : z_Sm mX6_town r M2 42 [some (.ref 0), some (.int ij)] [] Mj := by
  refine z_iload_n (pc := 42) dX6_town_42 rfl ?_
  refine z_iconst (pc := 43) (v := 2) dX6_town_43 (by decide) ?_
  refine z_icmp_ge (pc := 44) (tgt := 60) dX6_town_44 (by decide) (fun h44 => ?_) (fun h44 => ?_)
  · have hNj : 2 ≤ j := by
      have := z_ge h44 h2 (show (2 : Int32) = nI 2 from rfl) (by omega) (by omega)
      omega
    obtain rfl : j = 2 := by omega
    subst hM
    exact z_drop 1 kk
  · have hlt : j < 2 := by
      have := z_lt h44 h2 (show (2 : Int32) = nI 2 from rfl) (by omega) (by omega)
      omega
    refine z_aload_n (pc := 47) dX6_town_47 rfl ?_
    refine z_getR (pc := 48) 53 q_fX6_53 z_s0 rfl dX6_town_48 ?_
    refine z_iload_n (pc := 51) dX6_town_51 rfl ?_
    refine z_iconst (pc := 52) (v := 0) dX6_town_52 (by decide) ?_
    refine z_zast (pc := 53) (j) z_s53 ⟨h2, hlt, by decide⟩ z_bool0 dX6_town_53 ?_
    refine z_iinc (pc := 54) dX6_town_54 rfl rfl rfl (by decide) ?_
    refine z_goto (pc := 57) (tgt := 42) dX6_town_57 (by decide) ?_
    exact s_X6_town_42  kk (j + 1) hlt _ _ (z_n1 h2) (by rw [hM, z_set, z_row_1, z_row_row]; exact congrArg (z_row M 53) (cpF_s j (fun _ => 0) (M.1 53)))
termination_by 2 - j
decreasing_by all_goals omega
set_option maxRecDepth 100000 in
set_option maxHeartbeats 400000 in
theorem o_X6_town {M : z_Mem} {l : Nat → Int32} {n : Nat} {T : TT} {U : UT} {D : DT} {p : PLt} {A : List PLt} {k0 k1 : Option PLt} {L : List (Int32 × Int32)} {sd : Int64} (hR : RX M l n T U D p A k0 k1 L sd) (h : faF l n = -9) : ∃ M1, z_Ct mX6_town [.ref 0] M (some (.int (100 * nI (twP l n).1 + 10 * nI (twU l n).1 + nI (twD l n).1))) M1 ∧ RX M1 l n (twP l n) (twU l n) (twD l n) (0, fun _ => 0, 0) [] none none L sd ∧ Fx M M1 := by
  obtain ⟨rS, rT, rU, rD, rp, rA, r0, r1, rL, rs⟩ := id hR
  obtain ⟨N, hN, t1, t2, t3, s1⟩ := c_X4_readFrom rS h
  obtain ⟨N2, hN2, b1, s2⟩ := c_X2_begin (M := N)
  have s3 : Sb [18] N2 (z_set N2 18 2 0) := Sb.set _ (by simp)
  have s4 : Sb [53] (z_set N2 18 2 0) (z_row (z_set N2 18 2 0) 53 (cpF 2 (fun _ => 0) ((z_set N2 18 2 0).1 53))) := Sb.row _ (by simp)
  have sall : Sb [3, 4, 5, 6, 7, 8, 9, 10, 11, 14, 15, 18, 53] M (z_row (z_set N2 18 2 0) 53 (cpF 2 (fun _ => 0) ((z_set N2 18 2 0).1 53))) := (((s1.wk (by simp)).tr (s2.wk (by simp))).tr (s3.wk (by simp))).tr (s4.wk (by simp))
  have sl : Sb [14, 15, 18, 53] N (z_row (z_set N2 18 2 0) 53 (cpF 2 (fun _ => 0) ((z_set N2 18 2 0).1 53))) := ((s2.wk (by simp)).tr (s3.wk (by simp))).tr (s4.wk (by simp))
  have st : Sb [18, 53] N2 (z_row (z_set N2 18 2 0) 53 (cpF 2 (fun _ => 0) ((z_set N2 18 2 0).1 53))) := (s3.wk (by simp)).tr (s4.wk (by simp))
  obtain ⟨t, ht, a1, a2, a3, a4⟩ := rA
  have u3 := (UK_sb t2 sl (by simp) (by simp) (by simp)).1
  have d3 := (DK_sb t3 sl (by simp) (by simp) (by simp)).1
  have p3 := (TK_sb t1 sl (by simp)).1.1
  refine ⟨z_row (z_set N2 18 2 0) 53 (cpF 2 (fun _ => 0) ((z_set N2 18 2 0).1 53)), ?_, ?_, ?_⟩
  · refine z_entry (by decide +kernel) (Nat.le_of_ble_eq_true rfl) rfl ?_
    show z_Sm mX6_town _ _ 0 [some (.ref 0), none] [] M
    refine z_aload_n (pc := 0) dX6_town_0 rfl ?_
    refine z_getR (pc := 1) 1 q_fX6_10 z_s0 rfl dX6_town_1 ?_
    refine z_cV0 (pc := 4) (c_X3_firstFault rS) (q_cX6_83 _ (by decide)) z_s1 rfl rfl dX6_town_4 ?_
    refine z_bipush (pc := 7) (v := (-9)) dX6_town_7 (by decide) ?_
    refine z_icmp_eq (pc := 9) (tgt := 15) dX6_town_9 (by decide) (fun h9 => ?_) (fun h9 => ?_)
    · refine z_aload_n (pc := 15) dX6_town_15 rfl ?_
      refine z_getR (pc := 16) 3 q_fX6_19 z_s0 rfl dX6_town_16 ?_
      refine z_aload_n (pc := 19) dX6_town_19 rfl ?_
      refine z_getR (pc := 20) 1 q_fX6_10 z_s0 rfl dX6_town_20 ?_
      refine z_cV1v (pc := 23) hN (q_cX6_87 _ (by decide)) z_s3 rfl rfl dX6_town_23 ?_
      refine z_aload_n (pc := 26) dX6_town_26 rfl ?_
      refine z_getR (pc := 27) 14 q_fX6_35 z_s0 rfl dX6_town_27 ?_
      refine z_cV0v (pc := 30) hN2 (q_cX6_91 _ (by decide)) z_s14 rfl rfl dX6_town_30 ?_
      refine z_aload_n (pc := 33) dX6_town_33 rfl ?_
      refine z_getR (pc := 34) 18 q_fX6_45 z_s0 rfl dX6_town_34 ?_
      refine z_cV0v (pc := 37) c_X0_forget (q_cX6_94 _ (by decide)) z_s18 rfl rfl dX6_town_37 ?_
      refine z_iconst (pc := 40) (v := 0) dX6_town_40 (by decide) ?_
      refine z_istore_n (pc := 41) dX6_town_41 rfl (by decide) ?_
      refine s_X6_town_42 ?_ 0 (by omega) _ _ rfl (by rw [cpF_0, z_row_same])
      refine z_bipush (pc := 60) (v := 100) dX6_town_60 (by decide) ?_
      refine z_aload_n (pc := 62) dX6_town_62 rfl ?_
      refine z_getR (pc := 63) 3 q_fX6_19 z_s0 rfl dX6_town_63 ?_
      refine z_getI (pc := 66) q_fX6_97 z_s3 rfl dX6_town_66 ?_
      refine z_imul (pc := 69) dX6_town_69 ?_
      refine z_bipush (pc := 70) (v := 10) dX6_town_70 (by decide) ?_
      refine z_aload_n (pc := 72) dX6_town_72 rfl ?_
      refine z_getR (pc := 73) 3 q_fX6_19 z_s0 rfl dX6_town_73 ?_
      refine z_getI (pc := 76) q_fX6_100 z_s3 rfl dX6_town_76 ?_
      refine z_imul (pc := 79) dX6_town_79 ?_
      refine z_iadd (pc := 80) dX6_town_80 ?_
      refine z_aload_n (pc := 81) dX6_town_81 rfl ?_
      refine z_getR (pc := 82) 3 q_fX6_19 z_s0 rfl dX6_town_82 ?_
      refine z_getI (pc := 85) q_fX6_103 z_s3 rfl dX6_town_85 ?_
      refine z_iadd (pc := 88) dX6_town_88 ?_
      refine z_iret (pc := 89) rfl dX6_town_89 ?_ ?_
      · rw [p3, u3, d3]
      · rfl
    · exact absurd h h9
  · refine ⟨ScAt_sb rS sall (by simp) (by simp), TK_sb t1 sl (by simp), UK_sb t2 sl (by simp) (by simp) (by simp), DK_sb t3 sl (by simp) (by simp) (by simp), PlAt_sb b1 st (by simp) (by simp), ⟨t, ht, ?_, ?_, by simp, fun i pl hi => by simp at hi⟩, ?_, ?_, TrAt_sb rL sall (by simp) (by simp) (by simp), by rw [sall.2]; exact rs⟩
    · rw [s4.1 18 (by simp), z_set, z_row_1, upd_n _ _ (by decide), s2.1 18 (by simp), s1.1 18 (by simp)]; exact a1
    · rw [s4.1 18 (by simp), z_set, z_row_1, upd_1]; rfl
    · show (z_row _ 53 _).1 53 0 = 0
      rw [z_row_1]; rfl
    · show (z_row _ 53 _).1 53 1 = 0
      rw [z_row_1]; rfl
  · exact sall.fx (by simp)
set_option maxRecDepth 100000 in
set_option maxHeartbeats 400000 in
theorem o_X6_with {M : z_Mem} {l : Nat → Int32} {n : Nat} {T : TT} {U : UT} {D : DT} {p : PLt} {A : List PLt} {k0 k1 : Option PLt} {L : List (Int32 × Int32)} {sd : Int64} (hR : RX M l n T U D p A k0 k1 L sd) {x : Int32} (h : thg x = true) : z_Ct mX6_with [.ref 0, .int x] M (some (.int (rOut p.1 T.2.1 T.2.2.1 T.1 5 (em x.toNatClampNeg)))) M := by
  obtain ⟨rS, rT, rU, rD, rp, rA, r0, r1, rL, rs⟩ := id hR

  refine z_entry (by decide +kernel) (Nat.le_of_ble_eq_true rfl) rfl ?_
  show z_Sm mX6_with _ _ 0 [some (.ref 0), some (.int x)] [] M
  refine z_iload_n (pc := 0) dX6_with_0 rfl ?_
  refine z_cS1 (pc := 1) c_X6_isThing (q_cX6_132 _ (by decide)) rfl dX6_with_1 ?_
  refine z_if_ne (pc := 4) (tgt := 9) dX6_with_4 (by decide) (fun h4 => ?_) (fun h4 => ?_)
  · refine z_aload_n (pc := 9) dX6_with_9 rfl ?_
    refine z_getR (pc := 10) 3 q_fX6_19 z_s0 rfl dX6_with_10 ?_
    refine z_iload_n (pc := 13) dX6_with_13 rfl ?_
    refine z_aload_n (pc := 14) dX6_with_14 rfl ?_
    refine z_getR (pc := 15) 14 q_fX6_35 z_s0 rfl dX6_with_15 ?_
    refine z_getI (pc := 18) q_fX6_135 z_s14 rfl dX6_with_18 ?_
    refine z_cV2 (pc := 21) (c_X4_reach rT.1 (thg_at h).2) (q_cX6_138 _ (by decide)) z_s3 rfl rfl dX6_with_21 ?_
    refine z_iret (pc := 24) rfl dX6_with_24 ?_ ?_
    · rw [rp.1]
    · rfl
  · rw [h] at h4; exact absurd h4 (by decide)
set_option maxRecDepth 100000 in
set_option maxHeartbeats 400000 in
theorem o_X6_with_no {M : z_Mem} {l : Nat → Int32} {n : Nat} {T : TT} {U : UT} {D : DT} {p : PLt} {A : List PLt} {k0 k1 : Option PLt} {L : List (Int32 × Int32)} {sd : Int64} (hR : RX M l n T U D p A k0 k1 L sd) {x : Int32} (h : thg x = false) : z_Ct mX6_with [.ref 0, .int x] M (some (.int (-1))) M := by
  obtain ⟨rS, rT, rU, rD, rp, rA, r0, r1, rL, rs⟩ := id hR

  refine z_entry (by decide +kernel) (Nat.le_of_ble_eq_true rfl) rfl ?_
  show z_Sm mX6_with _ _ 0 [some (.ref 0), some (.int x)] [] M
  refine z_iload_n (pc := 0) dX6_with_0 rfl ?_
  refine z_cS1 (pc := 1) c_X6_isThing (q_cX6_132 _ (by decide)) rfl dX6_with_1 ?_
  refine z_if_ne (pc := 4) (tgt := 9) dX6_with_4 (by decide) (fun h4 => ?_) (fun h4 => ?_)
  · rw [h] at h4; exact absurd rfl h4
  · refine z_iconst (pc := 7) (v := (-1)) dX6_with_7 (by decide) ?_
    refine z_iret (pc := 8) rfl dX6_with_8 ?_ ?_
    · rfl
    · rfl
end
section
theorem RX_act {M N1 N2 : z_Mem} {l : Nat → Int32} {n : Nat} {T : TT} {U : UT} {D : DT} {p q : PLt} {A B : List PLt} {k0 k1 : Option PLt} {L : List (Int32 × Int32)} {sd : Int64} (h : RX M l n T U D p A k0 k1 L sd) (s1 : Sb z_ring M N1) (a1 : AcAt N1 B) (s2 : Sb [13, 14, 15] N1 N2) (hq : PlAt N2 14 q) : RX N2 l n T U D q B k0 k1 L sd ∧ Fx M N2 := by
  have hi : ∀ i ∈ 13 :: 14 :: 15 :: z_ring, 12 < i ∧ i < 48 := by
    intro i hi
    rcases List.mem_cons.mp hi with rfl | hi
    · decide
    rcases List.mem_cons.mp hi with rfl | hi
    · decide
    rcases List.mem_cons.mp hi with rfl | hi
    · decide
    have := z_ring_lt i hi
    omega
  have s : Sb (13 :: 14 :: 15 :: z_ring) M N2 := (s1.wk (fun i hi => List.mem_cons_of_mem _ (List.mem_cons_of_mem _ (List.mem_cons_of_mem _ hi)))).tr (s2.wk (fun i hi => by
    simp at hi
    rcases hi with rfl | rfl | rfl <;> simp))
  exact ⟨RX_mid h s hi hq (AcAt_sb a1 s2 (by simp)), s.fx (fun i hh => by have := hi i hh; omega)⟩
theorem ring_no {i : Nat} (h : i ≤ 17 ∨ 48 ≤ i) : i ∉ z_ring := fun q => by have := z_ring_lt i q; omega
set_option maxRecDepth 100000 in
set_option maxHeartbeats 400000 in
theorem o_X6_day {M : z_Mem} {l : Nat → Int32} {n : Nat} {T : TT} {U : UT} {D : DT} {p : PLt} {A : List PLt} {k0 k1 : Option PLt} {L : List (Int32 × Int32)} {sd : Int64} (hR : RX M l n T U D p A k0 k1 L sd) (ho : sm7 p.1) (hd : p.2.2 < 2 ^ 29) : ∃ M1, z_Ct mX6_day [.ref 0] M (some (.int (pgR (dyO T p) (dayF T U p).1))) M1 ∧ RX M1 l n T U D (dayF T U p) ((p :: A).take 14) k0 k1 L sd ∧ Fx M M1 := by
  obtain ⟨rS, rT, rU, rD, rp, rA, r0, r1, rL, rs⟩ := id hR
  obtain ⟨N1, c1, a1, s1⟩ := c_X0_remember rA rp
  have p1 : PlAt N1 14 p := PlAt_sb rp s1 (ring_no (by decide)) (ring_no (by decide))
  have t1 : TK N1 T := TK_sb rT s1 (fun i hi => by have := z_ring_lt i hi; omega)
  obtain ⟨N2, c2, p2, s2⟩ := c_X1_passDay_14 t1 (UK_sb rU s1 (ring_no (by decide)) (ring_no (by decide)) (ring_no (by decide))) p1 ho hd
  refine ⟨N2, ?_, ?_, ?_⟩
  · refine z_entry (by decide +kernel) (Nat.le_of_ble_eq_true rfl) rfl ?_
    show z_Sm mX6_day _ _ 0 [some (.ref 0)] [] M
    refine z_aload_n (pc := 0) dX6_day_0 rfl ?_
    refine z_getR (pc := 1) 18 q_fX6_45 z_s0 rfl dX6_day_1 ?_
    refine z_aload_n (pc := 4) dX6_day_4 rfl ?_
    refine z_getR (pc := 5) 14 q_fX6_35 z_s0 rfl dX6_day_5 ?_
    refine z_cV1v (pc := 8) c1 (q_cX6_141 _ (by decide)) z_s18 rfl rfl dX6_day_8 ?_
    refine z_aload_n (pc := 11) dX6_day_11 rfl ?_
    refine z_getR (pc := 12) 12 q_fX6_28 z_s0 rfl dX6_day_12 ?_
    refine z_aload_n (pc := 15) dX6_day_15 rfl ?_
    refine z_getR (pc := 16) 14 q_fX6_35 z_s0 rfl dX6_day_16 ?_
    refine z_cV1 (pc := 19) c2 (q_cX6_145 _ (by decide)) z_s12 rfl rfl dX6_day_19 ?_
    refine z_iret (pc := 22) rfl dX6_day_22 ?_ ?_
    · rfl
    · rfl
  · exact (RX_act hR s1 a1 (s2.wk (by simp)) p2).1
  · exact (RX_act hR s1 a1 (s2.wk (by simp)) p2).2
set_option maxRecDepth 100000 in
set_option maxHeartbeats 400000 in
theorem o_X6_tug {M : z_Mem} {l : Nat → Int32} {n : Nat} {T : TT} {U : UT} {D : DT} {p : PLt} {A : List PLt} {k0 k1 : Option PLt} {L : List (Int32 × Int32)} {sd : Int64} (hR : RX M l n T U D p A k0 k1 L sd) (ho : sm7 p.1) {x y : Int32} (h : thg x = true) (hy : ¬ (y < 1 ∨ 9 < y)) : ∃ M1, z_Ct mX6_tug [.ref 0, .int x, .int y] M (some (.int (pgR p.1 (tugF T p x.toNatClampNeg y).1))) M1 ∧ RX M1 l n T U D (tugF T p x.toNatClampNeg y) ((p :: A).take 14) k0 k1 L sd ∧ Fx M M1 := by
  obtain ⟨rS, rT, rU, rD, rp, rA, r0, r1, rL, rs⟩ := id hR
  obtain ⟨N1, c1, a1, s1⟩ := c_X0_remember rA rp
  have p1 : PlAt N1 14 p := PlAt_sb rp s1 (ring_no (by decide)) (ring_no (by decide))
  have t1 : TK N1 T := TK_sb rT s1 (fun i hi => by have := z_ring_lt i hi; omega)
  obtain ⟨N2, c2, p2, s2⟩ := c_X1_pullAt_14 t1 p1 ho (n := y) (thg_at h).2 (thg_at h).1
  refine ⟨N2, ?_, ?_, ?_⟩
  · refine z_entry (by decide +kernel) (Nat.le_of_ble_eq_true rfl) rfl ?_
    show z_Sm mX6_tug _ _ 0 [some (.ref 0), some (.int x), some (.int y)] [] M
    refine z_iload_n (pc := 0) dX6_tug_0 rfl ?_
    refine z_cS1 (pc := 1) c_X6_isThing (q_cX6_132 _ (by decide)) rfl dX6_tug_1 ?_
    refine z_if_ne (pc := 4) (tgt := 9) dX6_tug_4 (by decide) (fun h4 => ?_) (fun h4 => ?_)
    · refine z_iload_n (pc := 9) dX6_tug_9 rfl ?_
      refine z_iconst (pc := 10) (v := 1) dX6_tug_10 (by decide) ?_
      refine z_icmp_lt (pc := 11) (tgt := 20) dX6_tug_11 (by decide) (fun h11 => ?_) (fun h11 => ?_)
      · exact absurd (Or.inl h11) hy
      · refine z_iload_n (pc := 14) dX6_tug_14 rfl ?_
        refine z_bipush (pc := 15) (v := 9) dX6_tug_15 (by decide) ?_
        refine z_icmp_le (pc := 17) (tgt := 23) dX6_tug_17 (by decide) (fun h17 => ?_) (fun h17 => ?_)
        · refine z_aload_n (pc := 23) dX6_tug_23 rfl ?_
          refine z_getR (pc := 24) 18 q_fX6_45 z_s0 rfl dX6_tug_24 ?_
          refine z_aload_n (pc := 27) dX6_tug_27 rfl ?_
          refine z_getR (pc := 28) 14 q_fX6_35 z_s0 rfl dX6_tug_28 ?_
          refine z_cV1v (pc := 31) c1 (q_cX6_141 _ (by decide)) z_s18 rfl rfl dX6_tug_31 ?_
          refine z_aload_n (pc := 34) dX6_tug_34 rfl ?_
          refine z_getR (pc := 35) 12 q_fX6_28 z_s0 rfl dX6_tug_35 ?_
          refine z_aload_n (pc := 38) dX6_tug_38 rfl ?_
          refine z_getR (pc := 39) 14 q_fX6_35 z_s0 rfl dX6_tug_39 ?_
          refine z_iload_n (pc := 42) dX6_tug_42 rfl ?_
          refine z_iload_n (pc := 43) dX6_tug_43 rfl ?_
          refine z_cV3 (pc := 44) c2 (q_cX6_149 _ (by decide)) z_s12 rfl rfl dX6_tug_44 ?_
          refine z_iret (pc := 47) rfl dX6_tug_47 ?_ ?_
          · rfl
          · rfl
        · exact absurd (Or.inr (Int32.not_le.mp h17)) hy
    · rw [h] at h4; exact absurd h4 (by decide)
  · exact (RX_act hR s1 a1 (s2.wk (by simp)) p2).1
  · exact (RX_act hR s1 a1 (s2.wk (by simp)) p2).2
set_option maxRecDepth 100000 in
set_option maxHeartbeats 400000 in
theorem o_X6_tug_no {M : z_Mem} {l : Nat → Int32} {n : Nat} {T : TT} {U : UT} {D : DT} {p : PLt} {A : List PLt} {k0 k1 : Option PLt} {L : List (Int32 × Int32)} {sd : Int64} (hR : RX M l n T U D p A k0 k1 L sd) {x y : Int32} (h : thg x = false ∨ y < 1 ∨ 9 < y) : z_Ct mX6_tug [.ref 0, .int x, .int y] M (some (.int (if thg x then -2 else -1))) M := by
  obtain ⟨rS, rT, rU, rD, rp, rA, r0, r1, rL, rs⟩ := id hR

  refine z_entry (by decide +kernel) (Nat.le_of_ble_eq_true rfl) rfl ?_
  show z_Sm mX6_tug _ _ 0 [some (.ref 0), some (.int x), some (.int y)] [] M
  refine z_iload_n (pc := 0) dX6_tug_0 rfl ?_
  refine z_cS1 (pc := 1) c_X6_isThing (q_cX6_132 _ (by decide)) rfl dX6_tug_1 ?_
  refine z_if_ne (pc := 4) (tgt := 9) dX6_tug_4 (by decide) (fun h4 => ?_) (fun h4 => ?_)
  · refine z_iload_n (pc := 9) dX6_tug_9 rfl ?_
    refine z_iconst (pc := 10) (v := 1) dX6_tug_10 (by decide) ?_
    refine z_icmp_lt (pc := 11) (tgt := 20) dX6_tug_11 (by decide) (fun h11 => ?_) (fun h11 => ?_)
    · refine z_bipush (pc := 20) (v := (-2)) dX6_tug_20 (by decide) ?_
      refine z_iret (pc := 22) rfl dX6_tug_22 ?_ ?_
      · rw [z_t h4]; rfl
      · rfl
    · refine z_iload_n (pc := 14) dX6_tug_14 rfl ?_
      refine z_bipush (pc := 15) (v := 9) dX6_tug_15 (by decide) ?_
      refine z_icmp_le (pc := 17) (tgt := 23) dX6_tug_17 (by decide) (fun h17 => ?_) (fun h17 => ?_)
      · rcases h with h | h | h
        · rw [h] at h4; exact absurd rfl h4
        · exact absurd h h11
        · exact absurd h (Int32.not_lt.mpr h17)
      · refine z_bipush (pc := 20) (v := (-2)) dX6_tug_20 (by decide) ?_
        refine z_iret (pc := 22) rfl dX6_tug_22 ?_ ?_
        · rw [z_t h4]; rfl
        · rfl
  · refine z_iconst (pc := 7) (v := (-1)) dX6_tug_7 (by decide) ?_
    refine z_iret (pc := 8) rfl dX6_tug_8 ?_ ?_
    · rw [z_f h4]; rfl
    · rfl
set_option maxRecDepth 100000 in
set_option maxHeartbeats 400000 in
theorem o_X6_shut_no1 {M : z_Mem} {l : Nat → Int32} {n : Nat} {T : TT} {U : UT} {D : DT} {p : PLt} {A : List PLt} {k0 k1 : Option PLt} {L : List (Int32 × Int32)} {sd : Int64} (hR : RX M l n T U D p A k0 k1 L sd) {x : Int32} (h : pnB x T.1 = false) : z_Ct mX6_shut [.ref 0, .int x] M (some (.int (-1))) M := by
  obtain ⟨rS, rT, rU, rD, rp, rA, r0, r1, rL, rs⟩ := id hR

  refine z_entry (by decide +kernel) (Nat.le_of_ble_eq_true rfl) rfl ?_
  show z_Sm mX6_shut _ _ 0 [some (.ref 0), some (.int x)] [] M
  refine z_aload_n (pc := 0) dX6_shut_0 rfl ?_
  refine z_iload_n (pc := 1) dX6_shut_1 rfl ?_
  refine z_cV1 (pc := 2) (c_X6_isPin rT.1.1) (q_cX6_106 _ (by decide)) z_s0 rfl rfl dX6_shut_2 ?_
  refine z_if_ne (pc := 5) (tgt := 10) dX6_shut_5 (by decide) (fun h5 => ?_) (fun h5 => ?_)
  · rw [h] at h5; exact absurd rfl h5
  · refine z_iconst (pc := 8) (v := (-1)) dX6_shut_8 (by decide) ?_
    refine z_iret (pc := 9) rfl dX6_shut_9 ?_ ?_
    · rfl
    · rfl
set_option maxRecDepth 100000 in
set_option maxHeartbeats 400000 in
theorem o_X6_shut_no2 {M : z_Mem} {l : Nat → Int32} {n : Nat} {T : TT} {U : UT} {D : DT} {p : PLt} {A : List PLt} {k0 k1 : Option PLt} {L : List (Int32 × Int32)} {sd : Int64} (hR : RX M l n T U D p A k0 k1 L sd) {x : Int32} (h : pnB x T.1 = true) (hb : bt p.1 x.toNatClampNeg = false) : z_Ct mX6_shut [.ref 0, .int x] M (some (.int (-3))) M := by
  obtain ⟨rS, rT, rU, rD, rp, rA, r0, r1, rL, rs⟩ := id hR

  refine z_entry (by decide +kernel) (Nat.le_of_ble_eq_true rfl) rfl ?_
  show z_Sm mX6_shut _ _ 0 [some (.ref 0), some (.int x)] [] M
  refine z_aload_n (pc := 0) dX6_shut_0 rfl ?_
  refine z_iload_n (pc := 1) dX6_shut_1 rfl ?_
  refine z_cV1 (pc := 2) (c_X6_isPin rT.1.1) (q_cX6_106 _ (by decide)) z_s0 rfl rfl dX6_shut_2 ?_
  refine z_if_ne (pc := 5) (tgt := 10) dX6_shut_5 (by decide) (fun h5 => ?_) (fun h5 => ?_)
  · refine z_aload_n (pc := 10) dX6_shut_10 rfl ?_
    refine z_getR (pc := 11) 14 q_fX6_35 z_s0 rfl dX6_shut_11 ?_
    refine z_iload_n (pc := 14) dX6_shut_14 rfl ?_
    refine z_cV1 (pc := 15) (c_X2_isOpen_14 (pnB_at rT.1.2.1 h).2 (by have := (pnB_at rT.1.2.1 h).1; have := rT.1.2.1; omega)) (q_cX6_129 _ (by decide)) z_s14 rfl rfl dX6_shut_15 ?_
    refine z_if_ne (pc := 18) (tgt := 24) dX6_shut_18 (by decide) (fun h18 => ?_) (fun h18 => ?_)
    · rw [rp.1, hb] at h18; exact absurd rfl h18
    · refine z_bipush (pc := 21) (v := (-3)) dX6_shut_21 (by decide) ?_
      refine z_iret (pc := 23) rfl dX6_shut_23 ?_ ?_
      · rfl
      · rfl
  · rw [h] at h5; exact absurd h5 (by decide)
set_option maxRecDepth 100000 in
set_option maxHeartbeats 400000 in
theorem o_X6_open_no1 {M : z_Mem} {l : Nat → Int32} {n : Nat} {T : TT} {U : UT} {D : DT} {p : PLt} {A : List PLt} {k0 k1 : Option PLt} {L : List (Int32 × Int32)} {sd : Int64} (hR : RX M l n T U D p A k0 k1 L sd) {x : Int32} (h : pnB x T.1 = false) : z_Ct mX6_open [.ref 0, .int x] M (some (.int (-1))) M := by
  obtain ⟨rS, rT, rU, rD, rp, rA, r0, r1, rL, rs⟩ := id hR

  refine z_entry (by decide +kernel) (Nat.le_of_ble_eq_true rfl) rfl ?_
  show z_Sm mX6_open _ _ 0 [some (.ref 0), some (.int x)] [] M
  refine z_aload_n (pc := 0) dX6_open_0 rfl ?_
  refine z_iload_n (pc := 1) dX6_open_1 rfl ?_
  refine z_cV1 (pc := 2) (c_X6_isPin rT.1.1) (q_cX6_106 _ (by decide)) z_s0 rfl rfl dX6_open_2 ?_
  refine z_if_ne (pc := 5) (tgt := 10) dX6_open_5 (by decide) (fun h5 => ?_) (fun h5 => ?_)
  · rw [h] at h5; exact absurd rfl h5
  · refine z_iconst (pc := 8) (v := (-1)) dX6_open_8 (by decide) ?_
    refine z_iret (pc := 9) rfl dX6_open_9 ?_ ?_
    · rfl
    · rfl
set_option maxRecDepth 100000 in
set_option maxHeartbeats 400000 in
theorem o_X6_open_no2 {M : z_Mem} {l : Nat → Int32} {n : Nat} {T : TT} {U : UT} {D : DT} {p : PLt} {A : List PLt} {k0 k1 : Option PLt} {L : List (Int32 × Int32)} {sd : Int64} (hR : RX M l n T U D p A k0 k1 L sd) {x : Int32} (h : pnB x T.1 = true) (hb : bt p.1 x.toNatClampNeg = true) : z_Ct mX6_open [.ref 0, .int x] M (some (.int (-3))) M := by
  obtain ⟨rS, rT, rU, rD, rp, rA, r0, r1, rL, rs⟩ := id hR

  refine z_entry (by decide +kernel) (Nat.le_of_ble_eq_true rfl) rfl ?_
  show z_Sm mX6_open _ _ 0 [some (.ref 0), some (.int x)] [] M
  refine z_aload_n (pc := 0) dX6_open_0 rfl ?_
  refine z_iload_n (pc := 1) dX6_open_1 rfl ?_
  refine z_cV1 (pc := 2) (c_X6_isPin rT.1.1) (q_cX6_106 _ (by decide)) z_s0 rfl rfl dX6_open_2 ?_
  refine z_if_ne (pc := 5) (tgt := 10) dX6_open_5 (by decide) (fun h5 => ?_) (fun h5 => ?_)
  · refine z_aload_n (pc := 10) dX6_open_10 rfl ?_
    refine z_getR (pc := 11) 14 q_fX6_35 z_s0 rfl dX6_open_11 ?_
    refine z_iload_n (pc := 14) dX6_open_14 rfl ?_
    refine z_cV1 (pc := 15) (c_X2_isOpen_14 (pnB_at rT.1.2.1 h).2 (by have := (pnB_at rT.1.2.1 h).1; have := rT.1.2.1; omega)) (q_cX6_129 _ (by decide)) z_s14 rfl rfl dX6_open_15 ?_
    refine z_if_eq (pc := 18) (tgt := 24) dX6_open_18 (by decide) (fun h18 => ?_) (fun h18 => ?_)
    · rw [rp.1, hb] at h18; exact absurd h18 (by decide)
    · refine z_bipush (pc := 21) (v := (-3)) dX6_open_21 (by decide) ?_
      refine z_iret (pc := 23) rfl dX6_open_23 ?_ ?_
      · rfl
      · rfl
  · rw [h] at h5; exact absurd h5 (by decide)
set_option maxRecDepth 100000 in
set_option maxHeartbeats 400000 in
theorem o_X6_lasts_no1 {M : z_Mem} {l : Nat → Int32} {n : Nat} {T : TT} {U : UT} {D : DT} {p : PLt} {A : List PLt} {k0 k1 : Option PLt} {L : List (Int32 × Int32)} {sd : Int64} (hR : RX M l n T U D p A k0 k1 L sd) {x : Int32} (h : pnB x T.1 = false) : z_Ct mX6_lasts [.ref 0, .int x] M (some (.int (-1))) M := by
  obtain ⟨rS, rT, rU, rD, rp, rA, r0, r1, rL, rs⟩ := id hR

  refine z_entry (by decide +kernel) (Nat.le_of_ble_eq_true rfl) rfl ?_
  show z_Sm mX6_lasts _ _ 0 [some (.ref 0), some (.int x), none] [] M
  refine z_aload_n (pc := 0) dX6_lasts_0 rfl ?_
  refine z_iload_n (pc := 1) dX6_lasts_1 rfl ?_
  refine z_cV1 (pc := 2) (c_X6_isPin rT.1.1) (q_cX6_106 _ (by decide)) z_s0 rfl rfl dX6_lasts_2 ?_
  refine z_if_ne (pc := 5) (tgt := 10) dX6_lasts_5 (by decide) (fun h5 => ?_) (fun h5 => ?_)
  · rw [h] at h5; exact absurd rfl h5
  · refine z_iconst (pc := 8) (v := (-1)) dX6_lasts_8 (by decide) ?_
    refine z_iret (pc := 9) rfl dX6_lasts_9 ?_ ?_
    · rfl
    · rfl
set_option maxRecDepth 100000 in
set_option maxHeartbeats 400000 in
theorem o_X6_lasts_no2 {M : z_Mem} {l : Nat → Int32} {n : Nat} {T : TT} {U : UT} {D : DT} {p : PLt} {A : List PLt} {k0 k1 : Option PLt} {L : List (Int32 × Int32)} {sd : Int64} (hR : RX M l n T U D p A k0 k1 L sd) {x : Int32} (h : pnB x T.1 = true) (hb : bt p.1 x.toNatClampNeg = true) : z_Ct mX6_lasts [.ref 0, .int x] M (some (.int (-3))) M := by
  obtain ⟨rS, rT, rU, rD, rp, rA, r0, r1, rL, rs⟩ := id hR

  refine z_entry (by decide +kernel) (Nat.le_of_ble_eq_true rfl) rfl ?_
  show z_Sm mX6_lasts _ _ 0 [some (.ref 0), some (.int x), none] [] M
  refine z_aload_n (pc := 0) dX6_lasts_0 rfl ?_
  refine z_iload_n (pc := 1) dX6_lasts_1 rfl ?_
  refine z_cV1 (pc := 2) (c_X6_isPin rT.1.1) (q_cX6_106 _ (by decide)) z_s0 rfl rfl dX6_lasts_2 ?_
  refine z_if_ne (pc := 5) (tgt := 10) dX6_lasts_5 (by decide) (fun h5 => ?_) (fun h5 => ?_)
  · refine z_aload_n (pc := 10) dX6_lasts_10 rfl ?_
    refine z_getR (pc := 11) 14 q_fX6_35 z_s0 rfl dX6_lasts_11 ?_
    refine z_iload_n (pc := 14) dX6_lasts_14 rfl ?_
    refine z_cV1 (pc := 15) (c_X2_isOpen_14 (pnB_at rT.1.2.1 h).2 (by have := (pnB_at rT.1.2.1 h).1; have := rT.1.2.1; omega)) (q_cX6_129 _ (by decide)) z_s14 rfl rfl dX6_lasts_15 ?_
    refine z_if_eq (pc := 18) (tgt := 24) dX6_lasts_18 (by decide) (fun h18 => ?_) (fun h18 => ?_)
    · rw [rp.1, hb] at h18; exact absurd h18 (by decide)
    · refine z_bipush (pc := 21) (v := (-3)) dX6_lasts_21 (by decide) ?_
      refine z_iret (pc := 23) rfl dX6_lasts_23 ?_ ?_
      · rfl
      · rfl
  · rw [h] at h5; exact absurd h5 (by decide)
set_option maxRecDepth 100000 in
set_option maxHeartbeats 400000 in
theorem o_X6_chain_no1 {M : z_Mem} {l : Nat → Int32} {n : Nat} {T : TT} {U : UT} {D : DT} {p : PLt} {A : List PLt} {k0 k1 : Option PLt} {L : List (Int32 × Int32)} {sd : Int64} (hR : RX M l n T U D p A k0 k1 L sd) {x : Int32} (h : pnB x T.1 = false) : z_Ct mX6_chain [.ref 0, .int x] M (some (.int (-1))) M := by
  obtain ⟨rS, rT, rU, rD, rp, rA, r0, r1, rL, rs⟩ := id hR

  refine z_entry (by decide +kernel) (Nat.le_of_ble_eq_true rfl) rfl ?_
  show z_Sm mX6_chain _ _ 0 [some (.ref 0), some (.int x)] [] M
  refine z_aload_n (pc := 0) dX6_chain_0 rfl ?_
  refine z_iload_n (pc := 1) dX6_chain_1 rfl ?_
  refine z_cV1 (pc := 2) (c_X6_isPin rT.1.1) (q_cX6_106 _ (by decide)) z_s0 rfl rfl dX6_chain_2 ?_
  refine z_if_ne (pc := 5) (tgt := 10) dX6_chain_5 (by decide) (fun h5 => ?_) (fun h5 => ?_)
  · rw [h] at h5; exact absurd rfl h5
  · refine z_iconst (pc := 8) (v := (-1)) dX6_chain_8 (by decide) ?_
    refine z_iret (pc := 9) rfl dX6_chain_9 ?_ ?_
    · rfl
    · rfl
set_option maxRecDepth 100000 in
set_option maxHeartbeats 400000 in
theorem o_X6_chain_no2 {M : z_Mem} {l : Nat → Int32} {n : Nat} {T : TT} {U : UT} {D : DT} {p : PLt} {A : List PLt} {k0 k1 : Option PLt} {L : List (Int32 × Int32)} {sd : Int64} (hR : RX M l n T U D p A k0 k1 L sd) {x : Int32} (h : pnB x T.1 = true) (hb : bt p.1 x.toNatClampNeg = true) : z_Ct mX6_chain [.ref 0, .int x] M (some (.int (-3))) M := by
  obtain ⟨rS, rT, rU, rD, rp, rA, r0, r1, rL, rs⟩ := id hR

  refine z_entry (by decide +kernel) (Nat.le_of_ble_eq_true rfl) rfl ?_
  show z_Sm mX6_chain _ _ 0 [some (.ref 0), some (.int x)] [] M
  refine z_aload_n (pc := 0) dX6_chain_0 rfl ?_
  refine z_iload_n (pc := 1) dX6_chain_1 rfl ?_
  refine z_cV1 (pc := 2) (c_X6_isPin rT.1.1) (q_cX6_106 _ (by decide)) z_s0 rfl rfl dX6_chain_2 ?_
  refine z_if_ne (pc := 5) (tgt := 10) dX6_chain_5 (by decide) (fun h5 => ?_) (fun h5 => ?_)
  · refine z_aload_n (pc := 10) dX6_chain_10 rfl ?_
    refine z_getR (pc := 11) 14 q_fX6_35 z_s0 rfl dX6_chain_11 ?_
    refine z_iload_n (pc := 14) dX6_chain_14 rfl ?_
    refine z_cV1 (pc := 15) (c_X2_isOpen_14 (pnB_at rT.1.2.1 h).2 (by have := (pnB_at rT.1.2.1 h).1; have := rT.1.2.1; omega)) (q_cX6_129 _ (by decide)) z_s14 rfl rfl dX6_chain_15 ?_
    refine z_if_eq (pc := 18) (tgt := 24) dX6_chain_18 (by decide) (fun h18 => ?_) (fun h18 => ?_)
    · rw [rp.1, hb] at h18; exact absurd h18 (by decide)
    · refine z_bipush (pc := 21) (v := (-3)) dX6_chain_21 (by decide) ?_
      refine z_iret (pc := 23) rfl dX6_chain_23 ?_ ?_
      · rfl
      · rfl
  · rw [h] at h5; exact absurd h5 (by decide)
set_option maxRecDepth 100000 in
set_option maxHeartbeats 400000 in
theorem o_X6_shut {M : z_Mem} {l : Nat → Int32} {n : Nat} {T : TT} {U : UT} {D : DT} {p : PLt} {A : List PLt} {k0 k1 : Option PLt} {L : List (Int32 × Int32)} {sd : Int64} (hR : RX M l n T U D p A k0 k1 L sd) (ho : sm7 p.1) {x : Int32} (h : pnB x T.1 = true) (hb : bt p.1 x.toNatClampNeg = true) : ∃ M1, z_Ct mX6_shut [.ref 0, .int x] M (some (.int (nI (pc 7 (p.1 &&& (em x.toNatClampNeg ^^^ (-1))))))) M1 ∧ RX M1 l n T U D (p.1 &&& (em x.toNatClampNeg ^^^ (-1)), upd p.2.1 x.toNatClampNeg 0, p.2.2) ((p :: A).take 14) k0 k1 L sd ∧ Fx M M1 := by
  obtain ⟨rS, rT, rU, rD, rp, rA, r0, r1, rL, rs⟩ := id hR
  obtain ⟨N1, c1, a1, s1⟩ := c_X0_remember rA rp
  have p1 : PlAt N1 14 p := PlAt_sb rp s1 (ring_no (by decide)) (ring_no (by decide))
  have t1 : TK N1 T := TK_sb rT s1 (fun i hi => by have := z_ring_lt i hi; omega)
  have hx := pnB_at rT.1.2.1 h
  have hP7 := rT.1.2.1
  obtain ⟨N2, c2, p2, s2⟩ := c_X2_close_14 p1 hx.2 (by omega)
  refine ⟨N2, ?_, ?_, ?_⟩
  · refine z_entry (by decide +kernel) (Nat.le_of_ble_eq_true rfl) rfl ?_
    show z_Sm mX6_shut _ _ 0 [some (.ref 0), some (.int x)] [] M
    refine z_aload_n (pc := 0) dX6_shut_0 rfl ?_
    refine z_iload_n (pc := 1) dX6_shut_1 rfl ?_
    refine z_cV1 (pc := 2) (c_X6_isPin rT.1.1) (q_cX6_106 _ (by decide)) z_s0 rfl rfl dX6_shut_2 ?_
    refine z_if_ne (pc := 5) (tgt := 10) dX6_shut_5 (by decide) (fun h5 => ?_) (fun h5 => ?_)
    · refine z_aload_n (pc := 10) dX6_shut_10 rfl ?_
      refine z_getR (pc := 11) 14 q_fX6_35 z_s0 rfl dX6_shut_11 ?_
      refine z_iload_n (pc := 14) dX6_shut_14 rfl ?_
      refine z_cV1 (pc := 15) (c_X2_isOpen_14 hx.2 (by omega)) (q_cX6_129 _ (by decide)) z_s14 rfl rfl dX6_shut_15 ?_
      refine z_if_ne (pc := 18) (tgt := 24) dX6_shut_18 (by decide) (fun h18 => ?_) (fun h18 => ?_)
      · refine z_aload_n (pc := 24) dX6_shut_24 rfl ?_
        refine z_getR (pc := 25) 18 q_fX6_45 z_s0 rfl dX6_shut_25 ?_
        refine z_aload_n (pc := 28) dX6_shut_28 rfl ?_
        refine z_getR (pc := 29) 14 q_fX6_35 z_s0 rfl dX6_shut_29 ?_
        refine z_cV1v (pc := 32) c1 (q_cX6_141 _ (by decide)) z_s18 rfl rfl dX6_shut_32 ?_
        refine z_aload_n (pc := 35) dX6_shut_35 rfl ?_
        refine z_getR (pc := 36) 14 q_fX6_35 z_s0 rfl dX6_shut_36 ?_
        refine z_iload_n (pc := 39) dX6_shut_39 rfl ?_
        refine z_cV1v (pc := 40) c2 (q_cX6_153 _ (by decide)) z_s14 rfl rfl dX6_shut_40 ?_
        refine z_aload_n (pc := 43) dX6_shut_43 rfl ?_
        refine z_getR (pc := 44) 14 q_fX6_35 z_s0 rfl dX6_shut_44 ?_
        refine z_getI (pc := 47) q_fX6_135 z_s14 rfl dX6_shut_47 ?_
        refine z_cS1 (pc := 50) (c_J6_bitCount_0f7a4 (by rw [p2.1]; exact sm7_and ho)) (q_cX6_156 _ (by decide)) rfl dX6_shut_50 ?_
        refine z_iret (pc := 53) rfl dX6_shut_53 ?_ ?_
        · rw [p2.1]
        · rfl
      · rw [rp.1, hb] at h18; exact absurd h18 (by decide)
    · rw [h] at h5; exact absurd h5 (by decide)
  · exact (RX_act hR s1 a1 (s2.wk (by simp)) p2).1
  · exact (RX_act hR s1 a1 (s2.wk (by simp)) p2).2
set_option maxRecDepth 100000 in
set_option maxHeartbeats 400000 in
theorem o_X6_open {M : z_Mem} {l : Nat → Int32} {n : Nat} {T : TT} {U : UT} {D : DT} {p : PLt} {A : List PLt} {k0 k1 : Option PLt} {L : List (Int32 × Int32)} {sd : Int64} (hR : RX M l n T U D p A k0 k1 L sd) (ho : sm7 p.1) {x : Int32} (h : pnB x T.1 = true) (hb : bt p.1 x.toNatClampNeg = false) : ∃ M1, z_Ct mX6_open [.ref 0, .int x] M (some (.int (nI (pc 7 (p.1 ||| em x.toNatClampNeg))))) M1 ∧ RX M1 l n T U D (p.1 ||| em x.toNatClampNeg, p.2.1, p.2.2) ((p :: A).take 14) k0 k1 L sd ∧ Fx M M1 := by
  obtain ⟨rS, rT, rU, rD, rp, rA, r0, r1, rL, rs⟩ := id hR
  obtain ⟨N1, c1, a1, s1⟩ := c_X0_remember rA rp
  have p1 : PlAt N1 14 p := PlAt_sb rp s1 (ring_no (by decide)) (ring_no (by decide))
  have t1 : TK N1 T := TK_sb rT s1 (fun i hi => by have := z_ring_lt i hi; omega)
  have hx := pnB_at rT.1.2.1 h
  have hP7 := rT.1.2.1
  obtain ⟨N2, c2, p2, s2⟩ := c_X2_unpin_14 p1 hx.2
  refine ⟨N2, ?_, ?_, ?_⟩
  · refine z_entry (by decide +kernel) (Nat.le_of_ble_eq_true rfl) rfl ?_
    show z_Sm mX6_open _ _ 0 [some (.ref 0), some (.int x)] [] M
    refine z_aload_n (pc := 0) dX6_open_0 rfl ?_
    refine z_iload_n (pc := 1) dX6_open_1 rfl ?_
    refine z_cV1 (pc := 2) (c_X6_isPin rT.1.1) (q_cX6_106 _ (by decide)) z_s0 rfl rfl dX6_open_2 ?_
    refine z_if_ne (pc := 5) (tgt := 10) dX6_open_5 (by decide) (fun h5 => ?_) (fun h5 => ?_)
    · refine z_aload_n (pc := 10) dX6_open_10 rfl ?_
      refine z_getR (pc := 11) 14 q_fX6_35 z_s0 rfl dX6_open_11 ?_
      refine z_iload_n (pc := 14) dX6_open_14 rfl ?_
      refine z_cV1 (pc := 15) (c_X2_isOpen_14 hx.2 (by omega)) (q_cX6_129 _ (by decide)) z_s14 rfl rfl dX6_open_15 ?_
      refine z_if_eq (pc := 18) (tgt := 24) dX6_open_18 (by decide) (fun h18 => ?_) (fun h18 => ?_)
      · refine z_aload_n (pc := 24) dX6_open_24 rfl ?_
        refine z_getR (pc := 25) 18 q_fX6_45 z_s0 rfl dX6_open_25 ?_
        refine z_aload_n (pc := 28) dX6_open_28 rfl ?_
        refine z_getR (pc := 29) 14 q_fX6_35 z_s0 rfl dX6_open_29 ?_
        refine z_cV1v (pc := 32) c1 (q_cX6_141 _ (by decide)) z_s18 rfl rfl dX6_open_32 ?_
        refine z_aload_n (pc := 35) dX6_open_35 rfl ?_
        refine z_getR (pc := 36) 14 q_fX6_35 z_s0 rfl dX6_open_36 ?_
        refine z_iload_n (pc := 39) dX6_open_39 rfl ?_
        refine z_cV1v (pc := 40) c2 (q_cX6_162 _ (by decide)) z_s14 rfl rfl dX6_open_40 ?_
        refine z_aload_n (pc := 43) dX6_open_43 rfl ?_
        refine z_getR (pc := 44) 14 q_fX6_35 z_s0 rfl dX6_open_44 ?_
        refine z_getI (pc := 47) q_fX6_135 z_s14 rfl dX6_open_47 ?_
        refine z_cS1 (pc := 50) (c_J6_bitCount_0f7a4 (by rw [p2.1]; exact sm7_or ho (sm7_em (by omega)))) (q_cX6_156 _ (by decide)) rfl dX6_open_50 ?_
        refine z_iret (pc := 53) rfl dX6_open_53 ?_ ?_
        · rw [p2.1]
        · rfl
      · rw [rp.1, hb] at h18; exact absurd rfl h18
    · rw [h] at h5; exact absurd h5 (by decide)
  · exact (RX_act hR s1 a1 (s2.wk (by simp)) p2).1
  · exact (RX_act hR s1 a1 (s2.wk (by simp)) p2).2
set_option maxRecDepth 100000 in
set_option maxHeartbeats 400000 in
theorem o_X6_undo_no {M : z_Mem} {l : Nat → Int32} {n : Nat} {T : TT} {U : UT} {D : DT} {p : PLt} {A : List PLt} {k0 k1 : Option PLt} {L : List (Int32 × Int32)} {sd : Int64} (hR : RX M l n T U D p A k0 k1 L sd) (h : A = []) : z_Ct mX6_undo [.ref 0] M (some (.int (-3))) M := by
  obtain ⟨rS, rT, rU, rD, rp, rA, r0, r1, rL, rs⟩ := id hR

  refine z_entry (by decide +kernel) (Nat.le_of_ble_eq_true rfl) rfl ?_
  show z_Sm mX6_undo _ _ 0 [some (.ref 0)] [] M
  refine z_aload_n (pc := 0) dX6_undo_0 rfl ?_
  refine z_getR (pc := 1) 18 q_fX6_45 z_s0 rfl dX6_undo_1 ?_
  refine z_getI (pc := 4) q_fX6_165 z_s18 rfl dX6_undo_4 ?_
  refine z_if_ne (pc := 7) (tgt := 13) dX6_undo_7 (by decide) (fun h7 => ?_) (fun h7 => ?_)
  · obtain ⟨t, ht, a1, a2, -⟩ := rA
    exact absurd (by rw [a2, h]; rfl) h7
  · refine z_bipush (pc := 10) (v := (-3)) dX6_undo_10 (by decide) ?_
    refine z_iret (pc := 12) rfl dX6_undo_12 ?_ ?_
    · rfl
    · rfl
set_option maxRecDepth 100000 in
set_option maxHeartbeats 400000 in
theorem o_X6_undo {M : z_Mem} {l : Nat → Int32} {n : Nat} {T : TT} {U : UT} {D : DT} {p : PLt} {A : List PLt} {q : PLt} {k0 k1 : Option PLt} {L : List (Int32 × Int32)} {sd : Int64} (hR : RX M l n T U D p (q :: A) k0 k1 L sd) : ∃ M1, z_Ct mX6_undo [.ref 0] M (some (.int (nI A.length))) M1 ∧ RX M1 l n T U D q A k0 k1 L sd ∧ Fx M M1 := by
  obtain ⟨rS, rT, rU, rD, rp, rA, r0, r1, rL, rs⟩ := id hR
  obtain ⟨N, c1, a1, p1, s1⟩ := c_X0_takeBack rA
  refine ⟨N, ?_, RX_mid hR s1 (by simp) p1 a1, s1.fx (by simp)⟩
  obtain ⟨t, ht, b1, b2, b3, -⟩ := rA
  obtain ⟨t2, ht2, d1, d2, -⟩ := a1
  rw [List.length_cons] at b2 b3
  refine z_entry (by decide +kernel) (Nat.le_of_ble_eq_true rfl) rfl ?_
  show z_Sm mX6_undo _ _ 0 [some (.ref 0)] [] M
  refine z_aload_n (pc := 0) dX6_undo_0 rfl ?_
  refine z_getR (pc := 1) 18 q_fX6_45 z_s0 rfl dX6_undo_1 ?_
  refine z_getI (pc := 4) q_fX6_165 z_s18 rfl dX6_undo_4 ?_
  refine z_if_ne (pc := 7) (tgt := 13) dX6_undo_7 (by decide) (fun h7 => ?_) (fun h7 => ?_)
  · refine z_aload_n (pc := 13) dX6_undo_13 rfl ?_
    refine z_getR (pc := 14) 18 q_fX6_45 z_s0 rfl dX6_undo_14 ?_
    refine z_aload_n (pc := 17) dX6_undo_17 rfl ?_
    refine z_getR (pc := 18) 14 q_fX6_35 z_s0 rfl dX6_undo_18 ?_
    refine z_cV1v (pc := 21) c1 (q_cX6_166 _ (by decide)) z_s18 rfl rfl dX6_undo_21 ?_
    refine z_aload_n (pc := 24) dX6_undo_24 rfl ?_
    refine z_getR (pc := 25) 18 q_fX6_45 z_s0 rfl dX6_undo_25 ?_
    refine z_getI (pc := 28) q_fX6_165 z_s18 rfl dX6_undo_28 ?_
    refine z_iret (pc := 31) rfl dX6_undo_31 ?_ ?_
    · exact d2
    · rfl
  · exact absurd h7 (by rw [b2]; exact nI_ne0 (by omega) (by omega))
set_option maxRecDepth 100000 in
set_option maxHeartbeats 400000 in
theorem o_X6_keep_no1 {M : z_Mem} {l : Nat → Int32} {n : Nat} {T : TT} {U : UT} {D : DT} {p : PLt} {A : List PLt} {k0 k1 : Option PLt} {L : List (Int32 × Int32)} {sd : Int64} (hR : RX M l n T U D p A k0 k1 L sd) {x : Int32} (h : x < 0 ∨ 2 ≤ x) : z_Ct mX6_keep [.ref 0, .int x] M (some (.int (-1))) M := by
  obtain ⟨rS, rT, rU, rD, rp, rA, r0, r1, rL, rs⟩ := id hR

  refine z_entry (by decide +kernel) (Nat.le_of_ble_eq_true rfl) rfl ?_
  show z_Sm mX6_keep _ _ 0 [some (.ref 0), some (.int x)] [] M
  refine z_iload_n (pc := 0) dX6_keep_0 rfl ?_
  refine z_if_lt (pc := 1) (tgt := 9) dX6_keep_1 (by decide) (fun h1 => ?_) (fun h1 => ?_)
  · refine z_iconst (pc := 9) (v := (-1)) dX6_keep_9 (by decide) ?_
    refine z_iret (pc := 10) rfl dX6_keep_10 ?_ ?_
    · rfl
    · rfl
  · refine z_iload_n (pc := 4) dX6_keep_4 rfl ?_
    refine z_iconst (pc := 5) (v := 2) dX6_keep_5 (by decide) ?_
    refine z_icmp_lt (pc := 6) (tgt := 11) dX6_keep_6 (by decide) (fun h6 => ?_) (fun h6 => ?_)
    · exact absurd h6 (h.elim (fun q => absurd q h1) (fun q => Int32.not_lt.mpr q))
    · refine z_iconst (pc := 9) (v := (-1)) dX6_keep_9 (by decide) ?_
      refine z_iret (pc := 10) rfl dX6_keep_10 ?_ ?_
      · rfl
      · rfl
set_option maxRecDepth 100000 in
set_option maxHeartbeats 400000 in
theorem o_X6_again_no1 {M : z_Mem} {l : Nat → Int32} {n : Nat} {T : TT} {U : UT} {D : DT} {p : PLt} {A : List PLt} {k0 k1 : Option PLt} {L : List (Int32 × Int32)} {sd : Int64} (hR : RX M l n T U D p A k0 k1 L sd) {x : Int32} (h : x < 0 ∨ 2 ≤ x) : z_Ct mX6_again [.ref 0, .int x] M (some (.int (-1))) M := by
  obtain ⟨rS, rT, rU, rD, rp, rA, r0, r1, rL, rs⟩ := id hR

  refine z_entry (by decide +kernel) (Nat.le_of_ble_eq_true rfl) rfl ?_
  show z_Sm mX6_again _ _ 0 [some (.ref 0), some (.int x)] [] M
  refine z_iload_n (pc := 0) dX6_again_0 rfl ?_
  refine z_if_lt (pc := 1) (tgt := 9) dX6_again_1 (by decide) (fun h1 => ?_) (fun h1 => ?_)
  · refine z_iconst (pc := 9) (v := (-1)) dX6_again_9 (by decide) ?_
    refine z_iret (pc := 10) rfl dX6_again_10 ?_ ?_
    · rfl
    · rfl
  · refine z_iload_n (pc := 4) dX6_again_4 rfl ?_
    refine z_iconst (pc := 5) (v := 2) dX6_again_5 (by decide) ?_
    refine z_icmp_lt (pc := 6) (tgt := 11) dX6_again_6 (by decide) (fun h6 => ?_) (fun h6 => ?_)
    · exact absurd h6 (h.elim (fun q => absurd q h1) (fun q => Int32.not_lt.mpr q))
    · refine z_iconst (pc := 9) (v := (-1)) dX6_again_9 (by decide) ?_
      refine z_iret (pc := 10) rfl dX6_again_10 ?_ ?_
      · rfl
      · rfl
set_option maxRecDepth 100000 in
set_option maxHeartbeats 400000 in
theorem o_X6_keep_0 {M : z_Mem} {l : Nat → Int32} {n : Nat} {T : TT} {U : UT} {D : DT} {p : PLt} {A : List PLt} {k0 k1 : Option PLt} {L : List (Int32 × Int32)} {sd : Int64} (hR : RX M l n T U D p A k0 k1 L sd) {x : Int32} (hx : x = 0) : ∃ M1, z_Ct mX6_keep [.ref 0, .int x] M (some (.int (nI p.2.2))) M1 ∧ RX M1 l n T U D p A (some p) k1 L sd ∧ Fx M M1 := by
  obtain ⟨rS, rT, rU, rD, rp, rA, r0, r1, rL, rs⟩ := id hR
  obtain ⟨N, c1, p1, s1⟩ := c_X2_become (q := 49) PL_49 PL_14 (by decide) (by decide) (by decide) rp
  have s2 : Sb [53] N (z_set N 53 0 1) := Sb.set _ (by simp)
  have s3 : Sb [49, 50, 53] M (z_set N 53 0 1) := (s1.wk (by simp)).tr (s2.wk (by simp))
  refine ⟨z_set N 53 0 1, ?_, ?_, ?_⟩
  · refine z_entry (by decide +kernel) (Nat.le_of_ble_eq_true rfl) rfl ?_
    show z_Sm mX6_keep _ _ 0 [some (.ref 0), some (.int x)] [] M
    refine z_iload_n (pc := 0) dX6_keep_0 rfl ?_
    refine z_if_lt (pc := 1) (tgt := 9) dX6_keep_1 (by decide) (fun h1 => ?_) (fun h1 => ?_)
    · exact absurd h1 (by rw [hx]; decide)
    · refine z_iload_n (pc := 4) dX6_keep_4 rfl ?_
      refine z_iconst (pc := 5) (v := 2) dX6_keep_5 (by decide) ?_
      refine z_icmp_lt (pc := 6) (tgt := 11) dX6_keep_6 (by decide) (fun h6 => ?_) (fun h6 => ?_)
      · refine z_aload_n (pc := 11) dX6_keep_11 rfl ?_
        refine z_getR (pc := 12) 48 q_fX6_49 z_s0 rfl dX6_keep_12 ?_
        refine z_iload_n (pc := 15) dX6_keep_15 rfl ?_
        refine z_aald (pc := 16) (0) z_s48 ⟨hx, by decide, by decide⟩ rfl dX6_keep_16 ?_
        refine z_aload_n (pc := 17) dX6_keep_17 rfl ?_
        refine z_getR (pc := 18) 14 q_fX6_35 z_s0 rfl dX6_keep_18 ?_
        refine z_cV1v (pc := 21) c1 (q_cX6_169 _ (by decide)) z_s49 rfl rfl dX6_keep_21 ?_
        refine z_aload_n (pc := 24) dX6_keep_24 rfl ?_
        refine z_getR (pc := 25) 53 q_fX6_53 z_s0 rfl dX6_keep_25 ?_
        refine z_iload_n (pc := 28) dX6_keep_28 rfl ?_
        refine z_iconst (pc := 29) (v := 1) dX6_keep_29 (by decide) ?_
        refine z_zast (pc := 30) (0) z_s53 ⟨hx, by decide, by decide⟩ z_bool1 dX6_keep_30 ?_
        refine z_aload_n (pc := 31) dX6_keep_31 rfl ?_
        refine z_getR (pc := 32) 14 q_fX6_35 z_s0 rfl dX6_keep_32 ?_
        refine z_getI (pc := 35) q_fX6_247 z_s14 rfl dX6_keep_35 ?_
        refine z_iret (pc := 38) rfl dX6_keep_38 ?_ ?_
        · rw [(PlAt_sb rp s3 (by simp) (by simp)).2.2]
        · rfl
      · exact absurd (by rw [hx]; decide) h6
  · refine ⟨ScAt_sb rS s3 (by simp) (by simp), TK_sb rT s3 (by simp), UK_sb rU s3 (by simp) (by simp) (by simp), DK_sb rD s3 (by simp) (by simp) (by simp), PlAt_sb rp s3 (by simp) (by simp), AcAt_sb rA s3 (by simp), ?_, ?_, TrAt_sb rL s3 (by simp) (by simp) (by simp), by rw [s3.2]; exact rs⟩
    · exact ⟨by rw [z_set, z_row_1, upd_1], PlAt_sb p1 s2 (by simp) (by simp)⟩
    · have e : (z_set N 53 0 1).1 53 1 = M.1 53 1 := by rw [z_set, z_row_1, upd_n _ _ (by decide), s1.1 53 (by simp)]
      cases k1 with
      | none => exact e.trans r1
      | some pl => exact ⟨e.trans r1.1, PlAt_sb r1.2 s3 (by simp) (by simp)⟩
  · exact s3.fx (by simp)
set_option maxRecDepth 100000 in
set_option maxHeartbeats 400000 in
theorem o_X6_again_no2_0 {M : z_Mem} {l : Nat → Int32} {n : Nat} {T : TT} {U : UT} {D : DT} {p : PLt} {A : List PLt} {k0 k1 : Option PLt} {L : List (Int32 × Int32)} {sd : Int64} (hR : RX M l n T U D p A k0 k1 L sd) {x : Int32} (hx : x = 0) (hk : k0 = none) : z_Ct mX6_again [.ref 0, .int x] M (some (.int (-3))) M := by
  obtain ⟨rS, rT, rU, rD, rp, rA, r0, r1, rL, rs⟩ := id hR
  subst hk
  refine z_entry (by decide +kernel) (Nat.le_of_ble_eq_true rfl) rfl ?_
  show z_Sm mX6_again _ _ 0 [some (.ref 0), some (.int x)] [] M
  refine z_iload_n (pc := 0) dX6_again_0 rfl ?_
  refine z_if_lt (pc := 1) (tgt := 9) dX6_again_1 (by decide) (fun h1 => ?_) (fun h1 => ?_)
  · exact absurd h1 (by rw [hx]; decide)
  · refine z_iload_n (pc := 4) dX6_again_4 rfl ?_
    refine z_iconst (pc := 5) (v := 2) dX6_again_5 (by decide) ?_
    refine z_icmp_lt (pc := 6) (tgt := 11) dX6_again_6 (by decide) (fun h6 => ?_) (fun h6 => ?_)
    · refine z_aload_n (pc := 11) dX6_again_11 rfl ?_
      refine z_getR (pc := 12) 53 q_fX6_53 z_s0 rfl dX6_again_12 ?_
      refine z_iload_n (pc := 15) dX6_again_15 rfl ?_
      refine z_zald (pc := 16) (0) z_s53 ⟨hx, by decide, by decide⟩ dX6_again_16 ?_
      refine z_if_ne (pc := 17) (tgt := 23) dX6_again_17 (by decide) (fun h17 => ?_) (fun h17 => ?_)
      · exact absurd r0 h17
      · refine z_bipush (pc := 20) (v := (-3)) dX6_again_20 (by decide) ?_
        refine z_iret (pc := 22) rfl dX6_again_22 ?_ ?_
        · rfl
        · rfl
    · exact absurd (by rw [hx]; decide) h6
set_option maxRecDepth 100000 in
set_option maxHeartbeats 400000 in
theorem o_X6_again_0 {M : z_Mem} {l : Nat → Int32} {n : Nat} {T : TT} {U : UT} {D : DT} {p : PLt} {A : List PLt} {k0 k1 : Option PLt} {L : List (Int32 × Int32)} {sd : Int64} (hR : RX M l n T U D p A k0 k1 L sd) {q : PLt} {x : Int32} (hx : x = 0) (hk : k0 = some q) : ∃ M1, z_Ct mX6_again [.ref 0, .int x] M (some (.int (nI q.2.2))) M1 ∧ RX M1 l n T U D q [] k0 k1 L sd ∧ Fx M M1 := by
  obtain ⟨rS, rT, rU, rD, rp, rA, r0, r1, rL, rs⟩ := id hR
  subst hk
  obtain ⟨N, c1, p1, s1⟩ := c_X2_become (q := 14) PL_14 PL_49 (by decide) (by decide) (by decide) r0.2
  have s2 : Sb [18] N (z_set N 18 2 0) := Sb.set _ (by simp)
  have s3 : Sb [14, 15, 18] M (z_set N 18 2 0) := (s1.wk (by simp)).tr (s2.wk (by simp))
  obtain ⟨t, ht, a1, a2, a3, a4⟩ := rA
  refine ⟨z_set N 18 2 0, ?_, RX_mid hR s3 (by simp) (PlAt_sb p1 s2 (by simp) (by simp)) ⟨t, ht, ?_, ?_, by simp, fun i pl hi => by simp at hi⟩, s3.fx (by simp)⟩
  · refine z_entry (by decide +kernel) (Nat.le_of_ble_eq_true rfl) rfl ?_
    show z_Sm mX6_again _ _ 0 [some (.ref 0), some (.int x)] [] M
    refine z_iload_n (pc := 0) dX6_again_0 rfl ?_
    refine z_if_lt (pc := 1) (tgt := 9) dX6_again_1 (by decide) (fun h1 => ?_) (fun h1 => ?_)
    · exact absurd h1 (by rw [hx]; decide)
    · refine z_iload_n (pc := 4) dX6_again_4 rfl ?_
      refine z_iconst (pc := 5) (v := 2) dX6_again_5 (by decide) ?_
      refine z_icmp_lt (pc := 6) (tgt := 11) dX6_again_6 (by decide) (fun h6 => ?_) (fun h6 => ?_)
      · refine z_aload_n (pc := 11) dX6_again_11 rfl ?_
        refine z_getR (pc := 12) 53 q_fX6_53 z_s0 rfl dX6_again_12 ?_
        refine z_iload_n (pc := 15) dX6_again_15 rfl ?_
        refine z_zald (pc := 16) (0) z_s53 ⟨hx, by decide, by decide⟩ dX6_again_16 ?_
        refine z_if_ne (pc := 17) (tgt := 23) dX6_again_17 (by decide) (fun h17 => ?_) (fun h17 => ?_)
        · refine z_aload_n (pc := 23) dX6_again_23 rfl ?_
          refine z_getR (pc := 24) 14 q_fX6_35 z_s0 rfl dX6_again_24 ?_
          refine z_aload_n (pc := 27) dX6_again_27 rfl ?_
          refine z_getR (pc := 28) 48 q_fX6_49 z_s0 rfl dX6_again_28 ?_
          refine z_iload_n (pc := 31) dX6_again_31 rfl ?_
          refine z_aald (pc := 32) (0) z_s48 ⟨hx, by decide, by decide⟩ rfl dX6_again_32 ?_
          refine z_cV1v (pc := 33) c1 (q_cX6_169 _ (by decide)) z_s14 rfl rfl dX6_again_33 ?_
          refine z_aload_n (pc := 36) dX6_again_36 rfl ?_
          refine z_getR (pc := 37) 18 q_fX6_45 z_s0 rfl dX6_again_37 ?_
          refine z_cV0v (pc := 40) c_X0_forget (q_cX6_94 _ (by decide)) z_s18 rfl rfl dX6_again_40 ?_
          refine z_aload_n (pc := 43) dX6_again_43 rfl ?_
          refine z_getR (pc := 44) 14 q_fX6_35 z_s0 rfl dX6_again_44 ?_
          refine z_getI (pc := 47) q_fX6_247 z_s14 rfl dX6_again_47 ?_
          refine z_iret (pc := 50) rfl dX6_again_50 ?_ ?_
          · rw [(PlAt_sb p1 s2 (by simp) (by simp)).2.2]
          · rfl
        · exact absurd (r0.1.symm.trans h17) (by decide)
      · exact absurd (by rw [hx]; decide) h6
  · rw [z_set, z_row_1, upd_n _ _ (by decide), s1.1 18 (by simp)]; exact a1
  · rw [z_set, z_row_1, upd_1]; rfl
set_option maxRecDepth 100000 in
set_option maxHeartbeats 400000 in
theorem o_X6_keep_1 {M : z_Mem} {l : Nat → Int32} {n : Nat} {T : TT} {U : UT} {D : DT} {p : PLt} {A : List PLt} {k0 k1 : Option PLt} {L : List (Int32 × Int32)} {sd : Int64} (hR : RX M l n T U D p A k0 k1 L sd) {x : Int32} (hx : x = 1) : ∃ M1, z_Ct mX6_keep [.ref 0, .int x] M (some (.int (nI p.2.2))) M1 ∧ RX M1 l n T U D p A k0 (some p) L sd ∧ Fx M M1 := by
  obtain ⟨rS, rT, rU, rD, rp, rA, r0, r1, rL, rs⟩ := id hR
  obtain ⟨N, c1, p1, s1⟩ := c_X2_become (q := 51) PL_51 PL_14 (by decide) (by decide) (by decide) rp
  have s2 : Sb [53] N (z_set N 53 1 1) := Sb.set _ (by simp)
  have s3 : Sb [51, 52, 53] M (z_set N 53 1 1) := (s1.wk (by simp)).tr (s2.wk (by simp))
  refine ⟨z_set N 53 1 1, ?_, ?_, ?_⟩
  · refine z_entry (by decide +kernel) (Nat.le_of_ble_eq_true rfl) rfl ?_
    show z_Sm mX6_keep _ _ 0 [some (.ref 0), some (.int x)] [] M
    refine z_iload_n (pc := 0) dX6_keep_0 rfl ?_
    refine z_if_lt (pc := 1) (tgt := 9) dX6_keep_1 (by decide) (fun h1 => ?_) (fun h1 => ?_)
    · exact absurd h1 (by rw [hx]; decide)
    · refine z_iload_n (pc := 4) dX6_keep_4 rfl ?_
      refine z_iconst (pc := 5) (v := 2) dX6_keep_5 (by decide) ?_
      refine z_icmp_lt (pc := 6) (tgt := 11) dX6_keep_6 (by decide) (fun h6 => ?_) (fun h6 => ?_)
      · refine z_aload_n (pc := 11) dX6_keep_11 rfl ?_
        refine z_getR (pc := 12) 48 q_fX6_49 z_s0 rfl dX6_keep_12 ?_
        refine z_iload_n (pc := 15) dX6_keep_15 rfl ?_
        refine z_aald (pc := 16) (1) z_s48 ⟨hx, by decide, by decide⟩ rfl dX6_keep_16 ?_
        refine z_aload_n (pc := 17) dX6_keep_17 rfl ?_
        refine z_getR (pc := 18) 14 q_fX6_35 z_s0 rfl dX6_keep_18 ?_
        refine z_cV1v (pc := 21) c1 (q_cX6_169 _ (by decide)) z_s51 rfl rfl dX6_keep_21 ?_
        refine z_aload_n (pc := 24) dX6_keep_24 rfl ?_
        refine z_getR (pc := 25) 53 q_fX6_53 z_s0 rfl dX6_keep_25 ?_
        refine z_iload_n (pc := 28) dX6_keep_28 rfl ?_
        refine z_iconst (pc := 29) (v := 1) dX6_keep_29 (by decide) ?_
        refine z_zast (pc := 30) (1) z_s53 ⟨hx, by decide, by decide⟩ z_bool1 dX6_keep_30 ?_
        refine z_aload_n (pc := 31) dX6_keep_31 rfl ?_
        refine z_getR (pc := 32) 14 q_fX6_35 z_s0 rfl dX6_keep_32 ?_
        refine z_getI (pc := 35) q_fX6_247 z_s14 rfl dX6_keep_35 ?_
        refine z_iret (pc := 38) rfl dX6_keep_38 ?_ ?_
        · rw [(PlAt_sb rp s3 (by simp) (by simp)).2.2]
        · rfl
      · exact absurd (by rw [hx]; decide) h6
  · refine ⟨ScAt_sb rS s3 (by simp) (by simp), TK_sb rT s3 (by simp), UK_sb rU s3 (by simp) (by simp) (by simp), DK_sb rD s3 (by simp) (by simp) (by simp), PlAt_sb rp s3 (by simp) (by simp), AcAt_sb rA s3 (by simp), ?_, ?_, TrAt_sb rL s3 (by simp) (by simp) (by simp), by rw [s3.2]; exact rs⟩
    · have e : (z_set N 53 1 1).1 53 0 = M.1 53 0 := by rw [z_set, z_row_1, upd_n _ _ (by decide), s1.1 53 (by simp)]
      cases k0 with
      | none => exact e.trans r0
      | some pl => exact ⟨e.trans r0.1, PlAt_sb r0.2 s3 (by simp) (by simp)⟩
    · exact ⟨by rw [z_set, z_row_1, upd_1], PlAt_sb p1 s2 (by simp) (by simp)⟩
  · exact s3.fx (by simp)
set_option maxRecDepth 100000 in
set_option maxHeartbeats 400000 in
theorem o_X6_again_no2_1 {M : z_Mem} {l : Nat → Int32} {n : Nat} {T : TT} {U : UT} {D : DT} {p : PLt} {A : List PLt} {k0 k1 : Option PLt} {L : List (Int32 × Int32)} {sd : Int64} (hR : RX M l n T U D p A k0 k1 L sd) {x : Int32} (hx : x = 1) (hk : k1 = none) : z_Ct mX6_again [.ref 0, .int x] M (some (.int (-3))) M := by
  obtain ⟨rS, rT, rU, rD, rp, rA, r0, r1, rL, rs⟩ := id hR
  subst hk
  refine z_entry (by decide +kernel) (Nat.le_of_ble_eq_true rfl) rfl ?_
  show z_Sm mX6_again _ _ 0 [some (.ref 0), some (.int x)] [] M
  refine z_iload_n (pc := 0) dX6_again_0 rfl ?_
  refine z_if_lt (pc := 1) (tgt := 9) dX6_again_1 (by decide) (fun h1 => ?_) (fun h1 => ?_)
  · exact absurd h1 (by rw [hx]; decide)
  · refine z_iload_n (pc := 4) dX6_again_4 rfl ?_
    refine z_iconst (pc := 5) (v := 2) dX6_again_5 (by decide) ?_
    refine z_icmp_lt (pc := 6) (tgt := 11) dX6_again_6 (by decide) (fun h6 => ?_) (fun h6 => ?_)
    · refine z_aload_n (pc := 11) dX6_again_11 rfl ?_
      refine z_getR (pc := 12) 53 q_fX6_53 z_s0 rfl dX6_again_12 ?_
      refine z_iload_n (pc := 15) dX6_again_15 rfl ?_
      refine z_zald (pc := 16) (1) z_s53 ⟨hx, by decide, by decide⟩ dX6_again_16 ?_
      refine z_if_ne (pc := 17) (tgt := 23) dX6_again_17 (by decide) (fun h17 => ?_) (fun h17 => ?_)
      · exact absurd r1 h17
      · refine z_bipush (pc := 20) (v := (-3)) dX6_again_20 (by decide) ?_
        refine z_iret (pc := 22) rfl dX6_again_22 ?_ ?_
        · rfl
        · rfl
    · exact absurd (by rw [hx]; decide) h6
set_option maxRecDepth 100000 in
set_option maxHeartbeats 400000 in
theorem o_X6_again_1 {M : z_Mem} {l : Nat → Int32} {n : Nat} {T : TT} {U : UT} {D : DT} {p : PLt} {A : List PLt} {k0 k1 : Option PLt} {L : List (Int32 × Int32)} {sd : Int64} (hR : RX M l n T U D p A k0 k1 L sd) {q : PLt} {x : Int32} (hx : x = 1) (hk : k1 = some q) : ∃ M1, z_Ct mX6_again [.ref 0, .int x] M (some (.int (nI q.2.2))) M1 ∧ RX M1 l n T U D q [] k0 k1 L sd ∧ Fx M M1 := by
  obtain ⟨rS, rT, rU, rD, rp, rA, r0, r1, rL, rs⟩ := id hR
  subst hk
  obtain ⟨N, c1, p1, s1⟩ := c_X2_become (q := 14) PL_14 PL_51 (by decide) (by decide) (by decide) r1.2
  have s2 : Sb [18] N (z_set N 18 2 0) := Sb.set _ (by simp)
  have s3 : Sb [14, 15, 18] M (z_set N 18 2 0) := (s1.wk (by simp)).tr (s2.wk (by simp))
  obtain ⟨t, ht, a1, a2, a3, a4⟩ := rA
  refine ⟨z_set N 18 2 0, ?_, RX_mid hR s3 (by simp) (PlAt_sb p1 s2 (by simp) (by simp)) ⟨t, ht, ?_, ?_, by simp, fun i pl hi => by simp at hi⟩, s3.fx (by simp)⟩
  · refine z_entry (by decide +kernel) (Nat.le_of_ble_eq_true rfl) rfl ?_
    show z_Sm mX6_again _ _ 0 [some (.ref 0), some (.int x)] [] M
    refine z_iload_n (pc := 0) dX6_again_0 rfl ?_
    refine z_if_lt (pc := 1) (tgt := 9) dX6_again_1 (by decide) (fun h1 => ?_) (fun h1 => ?_)
    · exact absurd h1 (by rw [hx]; decide)
    · refine z_iload_n (pc := 4) dX6_again_4 rfl ?_
      refine z_iconst (pc := 5) (v := 2) dX6_again_5 (by decide) ?_
      refine z_icmp_lt (pc := 6) (tgt := 11) dX6_again_6 (by decide) (fun h6 => ?_) (fun h6 => ?_)
      · refine z_aload_n (pc := 11) dX6_again_11 rfl ?_
        refine z_getR (pc := 12) 53 q_fX6_53 z_s0 rfl dX6_again_12 ?_
        refine z_iload_n (pc := 15) dX6_again_15 rfl ?_
        refine z_zald (pc := 16) (1) z_s53 ⟨hx, by decide, by decide⟩ dX6_again_16 ?_
        refine z_if_ne (pc := 17) (tgt := 23) dX6_again_17 (by decide) (fun h17 => ?_) (fun h17 => ?_)
        · refine z_aload_n (pc := 23) dX6_again_23 rfl ?_
          refine z_getR (pc := 24) 14 q_fX6_35 z_s0 rfl dX6_again_24 ?_
          refine z_aload_n (pc := 27) dX6_again_27 rfl ?_
          refine z_getR (pc := 28) 48 q_fX6_49 z_s0 rfl dX6_again_28 ?_
          refine z_iload_n (pc := 31) dX6_again_31 rfl ?_
          refine z_aald (pc := 32) (1) z_s48 ⟨hx, by decide, by decide⟩ rfl dX6_again_32 ?_
          refine z_cV1v (pc := 33) c1 (q_cX6_169 _ (by decide)) z_s14 rfl rfl dX6_again_33 ?_
          refine z_aload_n (pc := 36) dX6_again_36 rfl ?_
          refine z_getR (pc := 37) 18 q_fX6_45 z_s0 rfl dX6_again_37 ?_
          refine z_cV0v (pc := 40) c_X0_forget (q_cX6_94 _ (by decide)) z_s18 rfl rfl dX6_again_40 ?_
          refine z_aload_n (pc := 43) dX6_again_43 rfl ?_
          refine z_getR (pc := 44) 14 q_fX6_35 z_s0 rfl dX6_again_44 ?_
          refine z_getI (pc := 47) q_fX6_247 z_s14 rfl dX6_again_47 ?_
          refine z_iret (pc := 50) rfl dX6_again_50 ?_ ?_
          · rw [(PlAt_sb p1 s2 (by simp) (by simp)).2.2]
          · rfl
        · exact absurd (r1.1.symm.trans h17) (by decide)
      · exact absurd (by rw [hx]; decide) h6
  · rw [z_set, z_row_1, upd_n _ _ (by decide), s1.1 18 (by simp)]; exact a1
  · rw [z_set, z_row_1, upd_1]; rfl
end
