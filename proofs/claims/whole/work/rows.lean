section
-- ===== PART A: goes FIRST, ahead of the names: the tables' words, and 'selects' of the private methods out of them =====
/-- a private method of a class that the tables say can be made, by its rows of tables_1 -/
def lw_okq (q : MethodName × Nat) : Prop := (q.1.cls ≠ "java/lang/invoke/MethodHandle" ∧ q.1.cls ≠ "java/lang/invoke/VarHandle") ∧ Cond.instantiable q.1.cls q.2 ∈ tables_1 ∧ Cond.privateMethod q.1 ∈ tables_1 ∧ Cond.instanceMethod q.1 ∈ tables_1
theorem lw_p0 : lw_okq (⟨"SafetyPins$Script", "canBegin", "(I)Z"⟩, 2) := ⟨⟨by decide +kernel, by decide +kernel⟩, List.mem_of_getElem? (i := 20) (by decide +kernel), List.mem_of_getElem? (i := 221) (by decide +kernel), List.mem_of_getElem? (i := 222) (by decide +kernel)⟩
theorem lw_p1 : lw_okq (⟨"SafetyPins$Script", "canGoOn", "(II)Z"⟩, 2) := ⟨⟨by decide +kernel, by decide +kernel⟩, List.mem_of_getElem? (i := 20) (by decide +kernel), List.mem_of_getElem? (i := 231) (by decide +kernel), List.mem_of_getElem? (i := 232) (by decide +kernel)⟩
theorem lw_p2 : lw_okq (⟨"SafetyPins$Town", "addPin", "(LSafetyPins$Script;I)V"⟩, 11) := ⟨⟨by decide +kernel, by decide +kernel⟩, List.mem_of_getElem? (i := 37) (by decide +kernel), List.mem_of_getElem? (i := 247) (by decide +kernel), List.mem_of_getElem? (i := 248) (by decide +kernel)⟩
theorem lw_p3 : lw_okq (⟨"SafetyPins", "isPin", "(I)Z"⟩, 12) := ⟨⟨by decide +kernel, by decide +kernel⟩, List.mem_of_getElem? (i := 12) (by decide +kernel), List.mem_of_getElem? (i := 264) (by decide +kernel), List.mem_of_getElem? (i := 265) (by decide +kernel)⟩
theorem lw_p4 : lw_okq (⟨"SafetyPins$Forces", "springShut", "(LSafetyPins$Plight;)V"⟩, 2) := ⟨⟨by decide +kernel, by decide +kernel⟩, List.mem_of_getElem? (i := 91) (by decide +kernel), List.mem_of_getElem? (i := 313) (by decide +kernel), List.mem_of_getElem? (i := 314) (by decide +kernel)⟩
theorem lw_p5 : lw_okq (⟨"SafetyPins$Forces", "givingNow", "(LSafetyPins$Plight;)I"⟩, 2) := ⟨⟨by decide +kernel, by decide +kernel⟩, List.mem_of_getElem? (i := 91) (by decide +kernel), List.mem_of_getElem? (i := 338) (by decide +kernel), List.mem_of_getElem? (i := 339) (by decide +kernel)⟩
theorem lw_p6 : lw_okq (⟨"SafetyPins$Forces", "loadOf", "(I)I"⟩, 2) := ⟨⟨by decide +kernel, by decide +kernel⟩, List.mem_of_getElem? (i := 91) (by decide +kernel), List.mem_of_getElem? (i := 343) (by decide +kernel), List.mem_of_getElem? (i := 344) (by decide +kernel)⟩
theorem lw_p7 : lw_okq (⟨"SafetyPins$Forces", "wearDown", "(LSafetyPins$Plight;)V"⟩, 2) := ⟨⟨by decide +kernel, by decide +kernel⟩, List.mem_of_getElem? (i := 91) (by decide +kernel), List.mem_of_getElem? (i := 352) (by decide +kernel), List.mem_of_getElem? (i := 353) (by decide +kernel)⟩
theorem lw_p8 : lw_okq (⟨"SafetyPins", "isBetterCut", "(II)Z"⟩, 12) := ⟨⟨by decide +kernel, by decide +kernel⟩, List.mem_of_getElem? (i := 12) (by decide +kernel), List.mem_of_getElem? (i := 416) (by decide +kernel), List.mem_of_getElem? (i := 417) (by decide +kernel)⟩
theorem lw_p9 : lw_okq (⟨"SafetyPins", "firstThatParts", "(III)I"⟩, 12) := ⟨⟨by decide +kernel, by decide +kernel⟩, List.mem_of_getElem? (i := 12) (by decide +kernel), List.mem_of_getElem? (i := 429) (by decide +kernel), List.mem_of_getElem? (i := 430) (by decide +kernel)⟩
theorem lw_p10 : lw_okq (⟨"SafetyPins", "comesTrue", "(III)Z"⟩, 12) := ⟨⟨by decide +kernel, by decide +kernel⟩, List.mem_of_getElem? (i := 12) (by decide +kernel), List.mem_of_getElem? (i := 449) (by decide +kernel), List.mem_of_getElem? (i := 450) (by decide +kernel)⟩
theorem lw_p11 : lw_okq (⟨"SafetyPins", "closesInThought", "(I)Z"⟩, 12) := ⟨⟨by decide +kernel, by decide +kernel⟩, List.mem_of_getElem? (i := 12) (by decide +kernel), List.mem_of_getElem? (i := 453) (by decide +kernel), List.mem_of_getElem? (i := 454) (by decide +kernel)⟩
theorem lw_p12 : lw_okq (⟨"SafetyPins", "unpinsInThought", "(I)Z"⟩, 12) := ⟨⟨by decide +kernel, by decide +kernel⟩, List.mem_of_getElem? (i := 12) (by decide +kernel), List.mem_of_getElem? (i := 457) (by decide +kernel), List.mem_of_getElem? (i := 458) (by decide +kernel)⟩
theorem lw_p13 : lw_okq (⟨"SafetyPins", "pairsBroughtInAllOrders", "(III)J"⟩, 12) := ⟨⟨by decide +kernel, by decide +kernel⟩, List.mem_of_getElem? (i := 12) (by decide +kernel), List.mem_of_getElem? (i := 494) (by decide +kernel), List.mem_of_getElem? (i := 495) (by decide +kernel)⟩
theorem lw_p14 : lw_okq (⟨"SafetyPins", "reckonGains", "(II)V"⟩, 12) := ⟨⟨by decide +kernel, by decide +kernel⟩, List.mem_of_getElem? (i := 12) (by decide +kernel), List.mem_of_getElem? (i := 509) (by decide +kernel), List.mem_of_getElem? (i := 510) (by decide +kernel)⟩
theorem lw_p15 : lw_okq (⟨"SafetyPins", "priceOfBeingAlone", "(I)I"⟩, 12) := ⟨⟨by decide +kernel, by decide +kernel⟩, List.mem_of_getElem? (i := 12) (by decide +kernel), List.mem_of_getElem? (i := 514) (by decide +kernel), List.mem_of_getElem? (i := 515) (by decide +kernel)⟩
def lw_privs_1 : List (MethodName × Nat) := [(⟨"SafetyPins$Script", "canBegin", "(I)Z"⟩, 2), (⟨"SafetyPins$Script", "canGoOn", "(II)Z"⟩, 2), (⟨"SafetyPins$Town", "addPin", "(LSafetyPins$Script;I)V"⟩, 11), (⟨"SafetyPins", "isPin", "(I)Z"⟩, 12), (⟨"SafetyPins$Forces", "springShut", "(LSafetyPins$Plight;)V"⟩, 2), (⟨"SafetyPins$Forces", "givingNow", "(LSafetyPins$Plight;)I"⟩, 2), (⟨"SafetyPins$Forces", "loadOf", "(I)I"⟩, 2), (⟨"SafetyPins$Forces", "wearDown", "(LSafetyPins$Plight;)V"⟩, 2), (⟨"SafetyPins", "isBetterCut", "(II)Z"⟩, 12), (⟨"SafetyPins", "firstThatParts", "(III)I"⟩, 12), (⟨"SafetyPins", "comesTrue", "(III)Z"⟩, 12), (⟨"SafetyPins", "closesInThought", "(I)Z"⟩, 12), (⟨"SafetyPins", "unpinsInThought", "(I)Z"⟩, 12), (⟨"SafetyPins", "pairsBroughtInAllOrders", "(III)J"⟩, 12), (⟨"SafetyPins", "reckonGains", "(II)V"⟩, 12), (⟨"SafetyPins", "priceOfBeingAlone", "(I)I"⟩, 12)]
theorem lw_r1 : ∀ q ∈ lw_privs_1, lw_okq q := List.forall_mem_cons.mpr ⟨lw_p0, List.forall_mem_cons.mpr ⟨lw_p1, List.forall_mem_cons.mpr ⟨lw_p2, List.forall_mem_cons.mpr ⟨lw_p3, List.forall_mem_cons.mpr ⟨lw_p4, List.forall_mem_cons.mpr ⟨lw_p5, List.forall_mem_cons.mpr ⟨lw_p6, List.forall_mem_cons.mpr ⟨lw_p7, List.forall_mem_cons.mpr ⟨lw_p8, List.forall_mem_cons.mpr ⟨lw_p9, List.forall_mem_cons.mpr ⟨lw_p10, List.forall_mem_cons.mpr ⟨lw_p11, List.forall_mem_cons.mpr ⟨lw_p12, List.forall_mem_cons.mpr ⟨lw_p13, List.forall_mem_cons.mpr ⟨lw_p14, List.forall_mem_cons.mpr ⟨lw_p15, fun _ h => absurd h List.not_mem_nil⟩⟩⟩⟩⟩⟩⟩⟩⟩⟩⟩⟩⟩⟩⟩⟩
theorem lw_p16 : lw_okq (⟨"SafetyPins", "isAtRest", "(II)Z"⟩, 12) := ⟨⟨by decide +kernel, by decide +kernel⟩, List.mem_of_getElem? (i := 12) (by decide +kernel), List.mem_of_getElem? (i := 518) (by decide +kernel), List.mem_of_getElem? (i := 519) (by decide +kernel)⟩
theorem lw_p17 : lw_okq (⟨"SafetyPins", "passSeason", "(I)V"⟩, 12) := ⟨⟨by decide +kernel, by decide +kernel⟩, List.mem_of_getElem? (i := 12) (by decide +kernel), List.mem_of_getElem? (i := 539) (by decide +kernel), List.mem_of_getElem? (i := 540) (by decide +kernel)⟩
theorem lw_p18 : lw_okq (⟨"SafetyPinsModel", "readText", "()I"⟩, 32) := ⟨⟨by decide +kernel, by decide +kernel⟩, List.mem_of_getElem? (i := 559) (by decide +kernel), List.mem_of_getElem? (i := 678) (by decide +kernel), List.mem_of_getElem? (i := 679) (by decide +kernel)⟩
theorem lw_p19 : lw_okq (⟨"SafetyPinsModel", "readPart", "(I)V"⟩, 32) := ⟨⟨by decide +kernel, by decide +kernel⟩, List.mem_of_getElem? (i := 559) (by decide +kernel), List.mem_of_getElem? (i := 682) (by decide +kernel), List.mem_of_getElem? (i := 683) (by decide +kernel)⟩
theorem lw_p20 : lw_okq (⟨"SafetyPinsModel", "figureOf", "(II)I"⟩, 32) := ⟨⟨by decide +kernel, by decide +kernel⟩, List.mem_of_getElem? (i := 559) (by decide +kernel), List.mem_of_getElem? (i := 686) (by decide +kernel), List.mem_of_getElem? (i := 687) (by decide +kernel)⟩
theorem lw_p21 : lw_okq (⟨"SafetyPinsModel", "isPin", "(I)Z"⟩, 32) := ⟨⟨by decide +kernel, by decide +kernel⟩, List.mem_of_getElem? (i := 559) (by decide +kernel), List.mem_of_getElem? (i := 698) (by decide +kernel), List.mem_of_getElem? (i := 699) (by decide +kernel)⟩
theorem lw_p22 : lw_okq (⟨"SafetyPinsModel", "holdsOn", "(II)I"⟩, 32) := ⟨⟨by decide +kernel, by decide +kernel⟩, List.mem_of_getElem? (i := 559) (by decide +kernel), List.mem_of_getElem? (i := 702) (by decide +kernel), List.mem_of_getElem? (i := 703) (by decide +kernel)⟩
theorem lw_p23 : lw_okq (⟨"SafetyPinsModel", "withBy", "(II)I"⟩, 32) := ⟨⟨by decide +kernel, by decide +kernel⟩, List.mem_of_getElem? (i := 559) (by decide +kernel), List.mem_of_getElem? (i := 714) (by decide +kernel), List.mem_of_getElem? (i := 715) (by decide +kernel)⟩
theorem lw_p24 : lw_okq (⟨"SafetyPinsModel", "keepAct", "()V"⟩, 32) := ⟨⟨by decide +kernel, by decide +kernel⟩, List.mem_of_getElem? (i := 559) (by decide +kernel), List.mem_of_getElem? (i := 725) (by decide +kernel), List.mem_of_getElem? (i := 726) (by decide +kernel)⟩
theorem lw_p25 : lw_okq (⟨"SafetyPinsModel", "passOn", "(I)I"⟩, 32) := ⟨⟨by decide +kernel, by decide +kernel⟩, List.mem_of_getElem? (i := 559) (by decide +kernel), List.mem_of_getElem? (i := 729) (by decide +kernel), List.mem_of_getElem? (i := 730) (by decide +kernel)⟩
theorem lw_p26 : lw_okq (⟨"SafetyPinsModel", "unload", "()V"⟩, 32) := ⟨⟨by decide +kernel, by decide +kernel⟩, List.mem_of_getElem? (i := 559) (by decide +kernel), List.mem_of_getElem? (i := 733) (by decide +kernel), List.mem_of_getElem? (i := 734) (by decide +kernel)⟩
theorem lw_p27 : lw_okq (⟨"SafetyPinsModel", "ping", "(I)I"⟩, 32) := ⟨⟨by decide +kernel, by decide +kernel⟩, List.mem_of_getElem? (i := 559) (by decide +kernel), List.mem_of_getElem? (i := 737) (by decide +kernel), List.mem_of_getElem? (i := 738) (by decide +kernel)⟩
theorem lw_p28 : lw_okq (⟨"SafetyPinsModel", "onBoth", "(I)I"⟩, 32) := ⟨⟨by decide +kernel, by decide +kernel⟩, List.mem_of_getElem? (i := 559) (by decide +kernel), List.mem_of_getElem? (i := 741) (by decide +kernel), List.mem_of_getElem? (i := 742) (by decide +kernel)⟩
theorem lw_p29 : lw_okq (⟨"SafetyPinsModel", "tugOn", "(III)I"⟩, 32) := ⟨⟨by decide +kernel, by decide +kernel⟩, List.mem_of_getElem? (i := 559) (by decide +kernel), List.mem_of_getElem? (i := 753) (by decide +kernel), List.mem_of_getElem? (i := 754) (by decide +kernel)⟩
theorem lw_p30 : lw_okq (⟨"SafetyPinsModel", "shutOn", "(II)V"⟩, 32) := ⟨⟨by decide +kernel, by decide +kernel⟩, List.mem_of_getElem? (i := 559) (by decide +kernel), List.mem_of_getElem? (i := 761) (by decide +kernel), List.mem_of_getElem? (i := 762) (by decide +kernel)⟩
theorem lw_p31 : lw_okq (⟨"SafetyPinsModel", "layTrial", "()V"⟩, 32) := ⟨⟨by decide +kernel, by decide +kernel⟩, List.mem_of_getElem? (i := 559) (by decide +kernel), List.mem_of_getElem? (i := 778) (by decide +kernel), List.mem_of_getElem? (i := 779) (by decide +kernel)⟩
def lw_privs_2 : List (MethodName × Nat) := [(⟨"SafetyPins", "isAtRest", "(II)Z"⟩, 12), (⟨"SafetyPins", "passSeason", "(I)V"⟩, 12), (⟨"SafetyPinsModel", "readText", "()I"⟩, 32), (⟨"SafetyPinsModel", "readPart", "(I)V"⟩, 32), (⟨"SafetyPinsModel", "figureOf", "(II)I"⟩, 32), (⟨"SafetyPinsModel", "isPin", "(I)Z"⟩, 32), (⟨"SafetyPinsModel", "holdsOn", "(II)I"⟩, 32), (⟨"SafetyPinsModel", "withBy", "(II)I"⟩, 32), (⟨"SafetyPinsModel", "keepAct", "()V"⟩, 32), (⟨"SafetyPinsModel", "passOn", "(I)I"⟩, 32), (⟨"SafetyPinsModel", "unload", "()V"⟩, 32), (⟨"SafetyPinsModel", "ping", "(I)I"⟩, 32), (⟨"SafetyPinsModel", "onBoth", "(I)I"⟩, 32), (⟨"SafetyPinsModel", "tugOn", "(III)I"⟩, 32), (⟨"SafetyPinsModel", "shutOn", "(II)V"⟩, 32), (⟨"SafetyPinsModel", "layTrial", "()V"⟩, 32)]
theorem lw_r2 : ∀ q ∈ lw_privs_2, lw_okq q := List.forall_mem_cons.mpr ⟨lw_p16, List.forall_mem_cons.mpr ⟨lw_p17, List.forall_mem_cons.mpr ⟨lw_p18, List.forall_mem_cons.mpr ⟨lw_p19, List.forall_mem_cons.mpr ⟨lw_p20, List.forall_mem_cons.mpr ⟨lw_p21, List.forall_mem_cons.mpr ⟨lw_p22, List.forall_mem_cons.mpr ⟨lw_p23, List.forall_mem_cons.mpr ⟨lw_p24, List.forall_mem_cons.mpr ⟨lw_p25, List.forall_mem_cons.mpr ⟨lw_p26, List.forall_mem_cons.mpr ⟨lw_p27, List.forall_mem_cons.mpr ⟨lw_p28, List.forall_mem_cons.mpr ⟨lw_p29, List.forall_mem_cons.mpr ⟨lw_p30, List.forall_mem_cons.mpr ⟨lw_p31, fun _ h => absurd h List.not_mem_nil⟩⟩⟩⟩⟩⟩⟩⟩⟩⟩⟩⟩⟩⟩⟩⟩
theorem lw_p32 : lw_okq (⟨"SafetyPinsModel", "all", "()I"⟩, 32) := ⟨⟨by decide +kernel, by decide +kernel⟩, List.mem_of_getElem? (i := 559) (by decide +kernel), List.mem_of_getElem? (i := 794) (by decide +kernel), List.mem_of_getElem? (i := 795) (by decide +kernel)⟩
theorem lw_p33 : lw_okq (⟨"SafetyPinsModel", "isTogether", "(III)Z"⟩, 32) := ⟨⟨by decide +kernel, by decide +kernel⟩, List.mem_of_getElem? (i := 559) (by decide +kernel), List.mem_of_getElem? (i := 798) (by decide +kernel), List.mem_of_getElem? (i := 799) (by decide +kernel)⟩
theorem lw_p34 : lw_okq (⟨"SafetyPinsModel", "doableBy", "(I)I"⟩, 32) := ⟨⟨by decide +kernel, by decide +kernel⟩, List.mem_of_getElem? (i := 559) (by decide +kernel), List.mem_of_getElem? (i := 810) (by decide +kernel), List.mem_of_getElem? (i := 811) (by decide +kernel)⟩
theorem lw_p35 : lw_okq (⟨"SafetyPinsModel", "tryThing", "(III)Z"⟩, 32) := ⟨⟨by decide +kernel, by decide +kernel⟩, List.mem_of_getElem? (i := 559) (by decide +kernel), List.mem_of_getElem? (i := 823) (by decide +kernel), List.mem_of_getElem? (i := 824) (by decide +kernel)⟩
theorem lw_p36 : lw_okq (⟨"SafetyPinsModel", "pairsBy", "(I)I"⟩, 32) := ⟨⟨by decide +kernel, by decide +kernel⟩, List.mem_of_getElem? (i := 559) (by decide +kernel), List.mem_of_getElem? (i := 847) (by decide +kernel), List.mem_of_getElem? (i := 848) (by decide +kernel)⟩
theorem lw_p37 : lw_okq (⟨"SafetyPinsModel", "isRest", "(IIII)Z"⟩, 32) := ⟨⟨by decide +kernel, by decide +kernel⟩, List.mem_of_getElem? (i := 559) (by decide +kernel), List.mem_of_getElem? (i := 858) (by decide +kernel), List.mem_of_getElem? (i := 859) (by decide +kernel)⟩
theorem lw_p38 : lw_okq (⟨"SafetyPinsModel", "gain", "(IIII)I"⟩, 32) := ⟨⟨by decide +kernel, by decide +kernel⟩, List.mem_of_getElem? (i := 559) (by decide +kernel), List.mem_of_getElem? (i := 862) (by decide +kernel), List.mem_of_getElem? (i := 863) (by decide +kernel)⟩
theorem lw_p39 : lw_okq (⟨"SafetyPinsModel", "wearOfAll", "()I"⟩, 32) := ⟨⟨by decide +kernel, by decide +kernel⟩, List.mem_of_getElem? (i := 559) (by decide +kernel), List.mem_of_getElem? (i := 898) (by decide +kernel), List.mem_of_getElem? (i := 899) (by decide +kernel)⟩
def lw_privs_3 : List (MethodName × Nat) := [(⟨"SafetyPinsModel", "all", "()I"⟩, 32), (⟨"SafetyPinsModel", "isTogether", "(III)Z"⟩, 32), (⟨"SafetyPinsModel", "doableBy", "(I)I"⟩, 32), (⟨"SafetyPinsModel", "tryThing", "(III)Z"⟩, 32), (⟨"SafetyPinsModel", "pairsBy", "(I)I"⟩, 32), (⟨"SafetyPinsModel", "isRest", "(IIII)Z"⟩, 32), (⟨"SafetyPinsModel", "gain", "(IIII)I"⟩, 32), (⟨"SafetyPinsModel", "wearOfAll", "()I"⟩, 32)]
theorem lw_r3 : ∀ q ∈ lw_privs_3, lw_okq q := List.forall_mem_cons.mpr ⟨lw_p32, List.forall_mem_cons.mpr ⟨lw_p33, List.forall_mem_cons.mpr ⟨lw_p34, List.forall_mem_cons.mpr ⟨lw_p35, List.forall_mem_cons.mpr ⟨lw_p36, List.forall_mem_cons.mpr ⟨lw_p37, List.forall_mem_cons.mpr ⟨lw_p38, List.forall_mem_cons.mpr ⟨lw_p39, fun _ h => absurd h List.not_mem_nil⟩⟩⟩⟩⟩⟩⟩⟩
def lw_privs : List (MethodName × Nat) := lw_privs_1 ++ (lw_privs_2 ++ (lw_privs_3))
def lw_tbl : List Cond := k2_sels lw_privs ++ tables_1
theorem lw_privs_ok : ∀ q ∈ lw_privs, lw_okq q := by
  show ∀ q ∈ lw_privs_1 ++ (lw_privs_2 ++ (lw_privs_3)), lw_okq q
  exact List.forall_mem_append.mpr ⟨lw_r1, List.forall_mem_append.mpr ⟨lw_r2, lw_r3⟩⟩
-- ===== end of PART A; then your names; then what follows =====
/-! ===== BEGIN printed: names, fields, word lists, decode rows ===== -/
def RX0 : String := "SafetyPins$Acts"
def TX0 : u_T := fun k => match k with
  | 0 => ("SafetyPins$Acts", "befores", "[LSafetyPins$Plight;", true)
  | 1 => ("SafetyPins$Acts", "top", "I", false)
  | _ => ("SafetyPins$Acts", "length", "I", false)
def tyX0 : Nat → FieldType := fun k => match k with
  | 0 => .array (.object "SafetyPins$Plight")
  | 1 => .int
  | _ => .int
theorem nmX0 : ∀ a, a < 3 → ∀ b, b < 3 → a ≠ b → (TX0 a).2.1 ≠ (TX0 b).2.1 := by decide +kernel
theorem tyX0_ok : ∀ k, k < 3 → parseFieldDescriptor (TX0 k).2.2.1 = some (tyX0 k) := by decide +kernel
abbrev cX0_init : ByteArray := prog_2_method_1_code
def yX0_init : MethodName := ⟨RX0, "<init>", "()V"⟩
abbrev cX0_forget : ByteArray := prog_2_method_2_code
def yX0_forget : MethodName := ⟨RX0, "forget", "()V"⟩
abbrev cX0_remember : ByteArray := prog_2_method_3_code
def yX0_remember : MethodName := ⟨RX0, "remember", "(LSafetyPins$Plight;)V"⟩
abbrev cX0_takeBack : ByteArray := prog_2_method_4_code
def yX0_takeBack : MethodName := ⟨RX0, "takeBack", "(LSafetyPins$Plight;)V"⟩
def RX1 : String := "SafetyPins$Forces"
def TX1 : u_T := fun k => match k with
  | 0 => ("SafetyPins$Forces", "town", "LSafetyPins$Town;", true)
  | _ => ("SafetyPins$Forces", "loads", "[I", true)
def tyX1 : Nat → FieldType := fun k => match k with
  | 0 => .object "SafetyPins$Town"
  | _ => .array .int
theorem nmX1 : ∀ a, a < 2 → ∀ b, b < 2 → a ≠ b → (TX1 a).2.1 ≠ (TX1 b).2.1 := by decide +kernel
theorem tyX1_ok : ∀ k, k < 2 → parseFieldDescriptor (TX1 k).2.2.1 = some (tyX1 k) := by decide +kernel
abbrev cX1_init : ByteArray := prog_3_method_1_code
def yX1_init : MethodName := ⟨RX1, "<init>", "(LSafetyPins$Town;)V"⟩
abbrev cX1_clear : ByteArray := prog_3_method_2_code
def yX1_clear : MethodName := ⟨RX1, "clear", "()V"⟩
abbrev cX1_burden : ByteArray := prog_3_method_3_code
def yX1_burden : MethodName := ⟨RX1, "burden", "(II)V"⟩
abbrev cX1_burdenEnds : ByteArray := prog_3_method_4_code
def yX1_burdenEnds : MethodName := ⟨RX1, "burdenEnds", "(I)V"⟩
abbrev cX1_loadOf : ByteArray := prog_3_method_5_code
def yX1_loadOf : MethodName := ⟨RX1, "loadOf", "(I)I"⟩
abbrev cX1_ping : ByteArray := prog_3_method_6_code
def yX1_ping : MethodName := ⟨RX1, "ping", "(LSafetyPins$Plight;)I"⟩
abbrev cX1_givingNow : ByteArray := prog_3_method_7_code
def yX1_givingNow : MethodName := ⟨RX1, "givingNow", "(LSafetyPins$Plight;)I"⟩
abbrev cX1_pullAt : ByteArray := prog_3_method_8_code
def yX1_pullAt : MethodName := ⟨RX1, "pullAt", "(LSafetyPins$Plight;II)I"⟩
abbrev cX1_passDay : ByteArray := prog_3_method_9_code
def yX1_passDay : MethodName := ⟨RX1, "passDay", "(LSafetyPins$Plight;)I"⟩
abbrev cX1_springShut : ByteArray := prog_3_method_10_code
def yX1_springShut : MethodName := ⟨RX1, "springShut", "(LSafetyPins$Plight;)V"⟩
abbrev cX1_wearDown : ByteArray := prog_3_method_11_code
def yX1_wearDown : MethodName := ⟨RX1, "wearDown", "(LSafetyPins$Plight;)V"⟩
def RX2 : String := "SafetyPins$Plight"
def TX2 : u_T := fun k => match k with
  | 0 => ("SafetyPins$Plight", "open", "I", false)
  | 1 => ("SafetyPins$Plight", "wear", "[I", true)
  | _ => ("SafetyPins$Plight", "dayNumber", "I", false)
def tyX2 : Nat → FieldType := fun k => match k with
  | 0 => .int
  | 1 => .array .int
  | _ => .int
theorem nmX2 : ∀ a, a < 3 → ∀ b, b < 3 → a ≠ b → (TX2 a).2.1 ≠ (TX2 b).2.1 := by decide +kernel
theorem tyX2_ok : ∀ k, k < 3 → parseFieldDescriptor (TX2 k).2.2.1 = some (tyX2 k) := by decide +kernel
abbrev cX2_init : ByteArray := prog_4_method_1_code
def yX2_init : MethodName := ⟨RX2, "<init>", "()V"⟩
abbrev cX2_begin : ByteArray := prog_4_method_2_code
def yX2_begin : MethodName := ⟨RX2, "begin", "()V"⟩
abbrev cX2_become : ByteArray := prog_4_method_3_code
def yX2_become : MethodName := ⟨RX2, "become", "(LSafetyPins$Plight;)V"⟩
abbrev cX2_isOpen : ByteArray := prog_4_method_4_code
def yX2_isOpen : MethodName := ⟨RX2, "isOpen", "(I)Z"⟩
abbrev cX2_close : ByteArray := prog_4_method_5_code
def yX2_close : MethodName := ⟨RX2, "close", "(I)V"⟩
abbrev cX2_unpin : ByteArray := prog_4_method_6_code
def yX2_unpin : MethodName := ⟨RX2, "unpin", "(I)V"⟩
abbrev cX2_wearOfAll : ByteArray := prog_4_method_7_code
def yX2_wearOfAll : MethodName := ⟨RX2, "wearOfAll", "()I"⟩
def RX3 : String := "SafetyPins$Script"
def TX3 : u_T := fun k => match k with
  | 0 => ("SafetyPins$Script", "letters", "[I", true)
  | _ => ("SafetyPins$Script", "length", "I", false)
def tyX3 : Nat → FieldType := fun k => match k with
  | 0 => .array .int
  | _ => .int
theorem nmX3 : ∀ a, a < 2 → ∀ b, b < 2 → a ≠ b → (TX3 a).2.1 ≠ (TX3 b).2.1 := by decide +kernel
theorem tyX3_ok : ∀ k, k < 2 → parseFieldDescriptor (TX3 k).2.2.1 = some (tyX3 k) := by decide +kernel
abbrev cX3_init : ByteArray := prog_5_method_1_code
def yX3_init : MethodName := ⟨RX3, "<init>", "()V"⟩
abbrev cX3_add : ByteArray := prog_5_method_2_code
def yX3_add : MethodName := ⟨RX3, "add", "(I)V"⟩
abbrev cX3_figure : ByteArray := prog_5_method_3_code
def yX3_figure : MethodName := ⟨RX3, "figure", "(I)I"⟩
abbrev cX3_sizeOfPart : ByteArray := prog_5_method_4_code
def yX3_sizeOfPart : MethodName := ⟨RX3, "sizeOfPart", "(I)I"⟩
abbrev cX3_mostOf : ByteArray := prog_5_method_5_code
def yX3_mostOf : MethodName := ⟨RX3, "mostOf", "(I)I"⟩
abbrev cX3_firstFault : ByteArray := prog_5_method_6_code
def yX3_firstFault : MethodName := ⟨RX3, "firstFault", "()I"⟩
abbrev cX3_canBegin : ByteArray := prog_5_method_7_code
def yX3_canBegin : MethodName := ⟨RX3, "canBegin", "(I)Z"⟩
abbrev cX3_canGoOn : ByteArray := prog_5_method_8_code
def yX3_canGoOn : MethodName := ⟨RX3, "canGoOn", "(II)Z"⟩
def RX4 : String := "SafetyPins$Town"
def TX4 : u_T := fun k => match k with
  | 0 => ("SafetyPins$Town", "pins", "I", false)
  | 1 => ("SafetyPins$Town", "one", "[I", true)
  | 2 => ("SafetyPins$Town", "other", "[I", true)
  | 3 => ("SafetyPins$Town", "strength", "[I", true)
  | 4 => ("SafetyPins$Town", "kind", "[I", true)
  | 5 => ("SafetyPins$Town", "pulls", "I", false)
  | 6 => ("SafetyPins$Town", "pullThing", "[I", true)
  | 7 => ("SafetyPins$Town", "pullLoad", "[I", true)
  | 8 => ("SafetyPins$Town", "deeds", "I", false)
  | 9 => ("SafetyPins$Town", "deedOne", "[I", true)
  | _ => ("SafetyPins$Town", "deedOther", "[I", true)
def tyX4 : Nat → FieldType := fun k => match k with
  | 0 => .int
  | 1 => .array .int
  | 2 => .array .int
  | 3 => .array .int
  | 4 => .array .int
  | 5 => .int
  | 6 => .array .int
  | 7 => .array .int
  | 8 => .int
  | 9 => .array .int
  | _ => .array .int
theorem nmX4 : ∀ a, a < 11 → ∀ b, b < 11 → a ≠ b → (TX4 a).2.1 ≠ (TX4 b).2.1 := by decide +kernel
theorem tyX4_ok : ∀ k, k < 11 → parseFieldDescriptor (TX4 k).2.2.1 = some (tyX4 k) := by decide +kernel
abbrev cX4_init : ByteArray := prog_6_method_1_code
def yX4_init : MethodName := ⟨RX4, "<init>", "()V"⟩
abbrev cX4_readFrom : ByteArray := prog_6_method_2_code
def yX4_readFrom : MethodName := ⟨RX4, "readFrom", "(LSafetyPins$Script;)V"⟩
abbrev cX4_addPin : ByteArray := prog_6_method_3_code
def yX4_addPin : MethodName := ⟨RX4, "addPin", "(LSafetyPins$Script;I)V"⟩
abbrev cX4_allPins : ByteArray := prog_6_method_4_code
def yX4_allPins : MethodName := ⟨RX4, "allPins", "()I"⟩
abbrev cX4_holds : ByteArray := prog_6_method_5_code
def yX4_holds : MethodName := ⟨RX4, "holds", "(II)I"⟩
abbrev cX4_endsOf : ByteArray := prog_6_method_6_code
def yX4_endsOf : MethodName := ⟨RX4, "endsOf", "(I)I"⟩
abbrev cX4_reach : ByteArray := prog_6_method_7_code
def yX4_reach : MethodName := ⟨RX4, "reach", "(II)I"⟩
abbrev cX4_areTogether : ByteArray := prog_6_method_8_code
def yX4_areTogether : MethodName := ⟨RX4, "areTogether", "(III)Z"⟩
abbrev cX4_pairsTogether : ByteArray := prog_6_method_9_code
def yX4_pairsTogether : MethodName := ⟨RX4, "pairsTogether", "(I)I"⟩
abbrev cX4_doable : ByteArray := prog_6_method_10_code
def yX4_doable : MethodName := ⟨RX4, "doable", "(I)I"⟩
def RX5 : String := "SafetyPins$Trials"
def TX5 : u_T := fun k => match k with
  | 0 => ("SafetyPins$Trials", "load", "[I", true)
  | 1 => ("SafetyPins$Trials", "gave", "[Z", true)
  | _ => ("SafetyPins$Trials", "length", "I", false)
def tyX5 : Nat → FieldType := fun k => match k with
  | 0 => .array .int
  | 1 => .array .boolean
  | _ => .int
theorem nmX5 : ∀ a, a < 3 → ∀ b, b < 3 → a ≠ b → (TX5 a).2.1 ≠ (TX5 b).2.1 := by decide +kernel
theorem tyX5_ok : ∀ k, k < 3 → parseFieldDescriptor (TX5 k).2.2.1 = some (tyX5 k) := by decide +kernel
abbrev cX5_init : ByteArray := prog_7_method_1_code
def yX5_init : MethodName := ⟨RX5, "<init>", "()V"⟩
abbrev cX5_add : ByteArray := prog_7_method_2_code
def yX5_add : MethodName := ⟨RX5, "add", "(IZ)V"⟩
abbrev cX5_agreeWith : ByteArray := prog_7_method_3_code
def yX5_agreeWith : MethodName := ⟨RX5, "agreeWith", "(II)Z"⟩
def RX6 : String := "SafetyPins"
def TX6 : u_T := fun k => match k with
  | 0 => ("SafetyPins", "script", "LSafetyPins$Script;", true)
  | 1 => ("SafetyPins", "made", "LSafetyPins$Town;", true)
  | 2 => ("SafetyPins", "forces", "LSafetyPins$Forces;", true)
  | 3 => ("SafetyPins", "now", "LSafetyPins$Plight;", true)
  | 4 => ("SafetyPins", "thought", "LSafetyPins$Plight;", true)
  | 5 => ("SafetyPins", "acts", "LSafetyPins$Acts;", true)
  | 6 => ("SafetyPins", "kept", "[LSafetyPins$Plight;", true)
  | 7 => ("SafetyPins", "isKept", "[Z", true)
  | 8 => ("SafetyPins", "tried", "LSafetyPins$Trials;", true)
  | 9 => ("SafetyPins", "oneGains", "[I", true)
  | 10 => ("SafetyPins", "otherGains", "[I", true)
  | _ => ("SafetyPins", "seedNow", "J", false)
def tyX6 : Nat → FieldType := fun k => match k with
  | 0 => .object "SafetyPins$Script"
  | 1 => .object "SafetyPins$Town"
  | 2 => .object "SafetyPins$Forces"
  | 3 => .object "SafetyPins$Plight"
  | 4 => .object "SafetyPins$Plight"
  | 5 => .object "SafetyPins$Acts"
  | 6 => .array (.object "SafetyPins$Plight")
  | 7 => .array .boolean
  | 8 => .object "SafetyPins$Trials"
  | 9 => .array .int
  | 10 => .array .int
  | _ => .long
theorem nmX6 : ∀ a, a < 12 → ∀ b, b < 12 → a ≠ b → (TX6 a).2.1 ≠ (TX6 b).2.1 := by decide +kernel
theorem tyX6_ok : ∀ k, k < 12 → parseFieldDescriptor (TX6 k).2.2.1 = some (tyX6 k) := by decide +kernel
abbrev cX6_init : ByteArray := prog_1_method_1_code
def yX6_init : MethodName := ⟨RX6, "<init>", "()V"⟩
abbrev cX6_write : ByteArray := prog_1_method_2_code
def yX6_write : MethodName := ⟨RX6, "write", "(I)I"⟩
abbrev cX6_wipe : ByteArray := prog_1_method_3_code
def yX6_wipe : MethodName := ⟨RX6, "wipe", "()I"⟩
abbrev cX6_fault : ByteArray := prog_1_method_4_code
def yX6_fault : MethodName := ⟨RX6, "fault", "()I"⟩
abbrev cX6_town : ByteArray := prog_1_method_5_code
def yX6_town : MethodName := ⟨RX6, "town", "()I"⟩
abbrev cX6_pin : ByteArray := prog_1_method_6_code
def yX6_pin : MethodName := ⟨RX6, "pin", "(II)I"⟩
abbrev cX6_with : ByteArray := prog_1_method_7_code
def yX6_with : MethodName := ⟨RX6, "with", "(I)I"⟩
abbrev cX6_day : ByteArray := prog_1_method_8_code
def yX6_day : MethodName := ⟨RX6, "day", "()I"⟩
abbrev cX6_tug : ByteArray := prog_1_method_9_code
def yX6_tug : MethodName := ⟨RX6, "tug", "(II)I"⟩
abbrev cX6_shut : ByteArray := prog_1_method_10_code
def yX6_shut : MethodName := ⟨RX6, "shut", "(I)I"⟩
abbrev cX6_open : ByteArray := prog_1_method_11_code
def yX6_open : MethodName := ⟨RX6, "open", "(I)I"⟩
abbrev cX6_undo : ByteArray := prog_1_method_12_code
def yX6_undo : MethodName := ⟨RX6, "undo", "()I"⟩
abbrev cX6_later : ByteArray := prog_1_method_13_code
def yX6_later : MethodName := ⟨RX6, "later", "(I)I"⟩
abbrev cX6_lasts : ByteArray := prog_1_method_14_code
def yX6_lasts : MethodName := ⟨RX6, "lasts", "(I)I"⟩
abbrev cX6_chain : ByteArray := prog_1_method_15_code
def yX6_chain : MethodName := ⟨RX6, "chain", "(I)I"⟩
abbrev cX6_cuts : ByteArray := prog_1_method_16_code
def yX6_cuts : MethodName := ⟨RX6, "cuts", "(II)I"⟩
abbrev cX6_parts : ByteArray := prog_1_method_17_code
def yX6_parts : MethodName := ⟨RX6, "parts", "(III)I"⟩
abbrev cX6_letsGo : ByteArray := prog_1_method_18_code
def yX6_letsGo : MethodName := ⟨RX6, "letsGo", "(I)I"⟩
abbrev cX6_judge : ByteArray := prog_1_method_19_code
def yX6_judge : MethodName := ⟨RX6, "judge", "(IJ)I"⟩
abbrev cX6_trial : ByteArray := prog_1_method_20_code
def yX6_trial : MethodName := ⟨RX6, "trial", "(II)I"⟩
abbrev cX6_untry : ByteArray := prog_1_method_21_code
def yX6_untry : MethodName := ⟨RX6, "untry", "()I"⟩
abbrev cX6_which : ByteArray := prog_1_method_22_code
def yX6_which : MethodName := ⟨RX6, "which", "(I)I"⟩
abbrev cX6_share : ByteArray := prog_1_method_23_code
def yX6_share : MethodName := ⟨RX6, "share", "(IZ)I"⟩
abbrev cX6_rests : ByteArray := prog_1_method_24_code
def yX6_rests : MethodName := ⟨RX6, "rests", "(III)I"⟩
abbrev cX6_gives : ByteArray := prog_1_method_25_code
def yX6_gives : MethodName := ⟨RX6, "gives", "(IIIZ)I"⟩
abbrev cX6_seed : ByteArray := prog_1_method_26_code
def yX6_seed : MethodName := ⟨RX6, "seed", "(J)J"⟩
abbrev cX6_seasons : ByteArray := prog_1_method_27_code
def yX6_seasons : MethodName := ⟨RX6, "seasons", "(I)I"⟩
abbrev cX6_keep : ByteArray := prog_1_method_28_code
def yX6_keep : MethodName := ⟨RX6, "keep", "(I)I"⟩
abbrev cX6_again : ByteArray := prog_1_method_29_code
def yX6_again : MethodName := ⟨RX6, "again", "(I)I"⟩
abbrev cX6_count : ByteArray := prog_1_method_30_code
def yX6_count : MethodName := ⟨RX6, "count", "(I)I"⟩
abbrev cX6_isThing : ByteArray := prog_1_method_31_code
def yX6_isThing : MethodName := ⟨RX6, "isThing", "(I)Z"⟩
abbrev cX6_isPin : ByteArray := prog_1_method_32_code
def yX6_isPin : MethodName := ⟨RX6, "isPin", "(I)Z"⟩
abbrev cX6_refusalOfTwo : ByteArray := prog_1_method_33_code
def yX6_refusalOfTwo : MethodName := ⟨RX6, "refusalOfTwo", "(II)I"⟩
abbrev cX6_isBetterCut : ByteArray := prog_1_method_34_code
def yX6_isBetterCut : MethodName := ⟨RX6, "isBetterCut", "(II)Z"⟩
abbrev cX6_firstThatParts : ByteArray := prog_1_method_35_code
def yX6_firstThatParts : MethodName := ⟨RX6, "firstThatParts", "(III)I"⟩
abbrev cX6_comesTrue : ByteArray := prog_1_method_36_code
def yX6_comesTrue : MethodName := ⟨RX6, "comesTrue", "(III)Z"⟩
abbrev cX6_closesInThought : ByteArray := prog_1_method_37_code
def yX6_closesInThought : MethodName := ⟨RX6, "closesInThought", "(I)Z"⟩
abbrev cX6_unpinsInThought : ByteArray := prog_1_method_38_code
def yX6_unpinsInThought : MethodName := ⟨RX6, "unpinsInThought", "(I)Z"⟩
abbrev cX6_passSeason : ByteArray := prog_1_method_39_code
def yX6_passSeason : MethodName := ⟨RX6, "passSeason", "(I)V"⟩
abbrev cX6_pairsBroughtInAllOrders : ByteArray := prog_1_method_40_code
def yX6_pairsBroughtInAllOrders : MethodName := ⟨RX6, "pairsBroughtInAllOrders", "(III)J"⟩
abbrev cX6_reckonGains : ByteArray := prog_1_method_41_code
def yX6_reckonGains : MethodName := ⟨RX6, "reckonGains", "(II)V"⟩
abbrev cX6_priceOfBeingAlone : ByteArray := prog_1_method_42_code
def yX6_priceOfBeingAlone : MethodName := ⟨RX6, "priceOfBeingAlone", "(I)I"⟩
abbrev cX6_isAtRest : ByteArray := prog_1_method_43_code
def yX6_isAtRest : MethodName := ⟨RX6, "isAtRest", "(II)Z"⟩
abbrev cX6_power : ByteArray := prog_1_method_44_code
def yX6_power : MethodName := ⟨RX6, "power", "(II)J"⟩
abbrev cX6_inLeastTerms : ByteArray := prog_1_method_45_code
def yX6_inLeastTerms : MethodName := ⟨RX6, "inLeastTerms", "(JJZ)I"⟩
abbrev cX6_commonDivisor : ByteArray := prog_1_method_46_code
def yX6_commonDivisor : MethodName := ⟨RX6, "commonDivisor", "(JJ)J"⟩
def RX7 : String := "SafetyPinsModel"
def TX7 : u_T := fun k => match k with
  | 0 => ("SafetyPinsModel", "pins", "I", false)
  | 1 => ("SafetyPinsModel", "pulls", "I", false)
  | 2 => ("SafetyPinsModel", "deeds", "I", false)
  | 3 => ("SafetyPinsModel", "end", "[I", true)
  | 4 => ("SafetyPinsModel", "otherEnd", "[I", true)
  | 5 => ("SafetyPinsModel", "strength", "[I", true)
  | 6 => ("SafetyPinsModel", "kind", "[I", true)
  | 7 => ("SafetyPinsModel", "pulled", "[I", true)
  | 8 => ("SafetyPinsModel", "pull", "[I", true)
  | 9 => ("SafetyPinsModel", "deedOne", "[I", true)
  | 10 => ("SafetyPinsModel", "deedOther", "[I", true)
  | 11 => ("SafetyPinsModel", "now", "[I", true)
  | 12 => ("SafetyPinsModel", "readPin", "[I", true)
  | 13 => ("SafetyPinsModel", "readPull", "[I", true)
  | 14 => ("SafetyPinsModel", "readDeed", "[I", true)
  | 15 => ("SafetyPinsModel", "readPins", "I", false)
  | 16 => ("SafetyPinsModel", "readPulls", "I", false)
  | 17 => ("SafetyPinsModel", "readDeeds", "I", false)
  | 18 => ("SafetyPinsModel", "text", "[I", true)
  | 19 => ("SafetyPinsModel", "length", "I", false)
  | 20 => ("SafetyPinsModel", "at", "I", false)
  | 21 => ("SafetyPinsModel", "faultAt", "I", false)
  | 22 => ("SafetyPinsModel", "load", "[I", true)
  | 23 => ("SafetyPinsModel", "acts", "I", false)
  | 24 => ("SafetyPinsModel", "next", "I", false)
  | 25 => ("SafetyPinsModel", "row", "[I", true)
  | 26 => ("SafetyPinsModel", "tried", "I", false)
  | 27 => ("SafetyPinsModel", "triedLoad", "[I", true)
  | 28 => ("SafetyPinsModel", "triedGave", "[I", true)
  | 29 => ("SafetyPinsModel", "seed", "J", false)
  | 30 => ("SafetyPinsModel", "isKept", "[Z", true)
  | _ => ("SafetyPinsModel", "kept", "[I", true)
def tyX7 : Nat → FieldType := fun k => match k with
  | 0 => .int
  | 1 => .int
  | 2 => .int
  | 3 => .array .int
  | 4 => .array .int
  | 5 => .array .int
  | 6 => .array .int
  | 7 => .array .int
  | 8 => .array .int
  | 9 => .array .int
  | 10 => .array .int
  | 11 => .array .int
  | 12 => .array .int
  | 13 => .array .int
  | 14 => .array .int
  | 15 => .int
  | 16 => .int
  | 17 => .int
  | 18 => .array .int
  | 19 => .int
  | 20 => .int
  | 21 => .int
  | 22 => .array .int
  | 23 => .int
  | 24 => .int
  | 25 => .array .int
  | 26 => .int
  | 27 => .array .int
  | 28 => .array .int
  | 29 => .long
  | 30 => .array .boolean
  | _ => .array .int
theorem nmX7 : ∀ a, a < 32 → ∀ b, b < 32 → a ≠ b → (TX7 a).2.1 ≠ (TX7 b).2.1 := by decide +kernel
theorem tyX7_ok : ∀ k, k < 32 → parseFieldDescriptor (TX7 k).2.2.1 = some (tyX7 k) := by decide +kernel
abbrev cX7_init : ByteArray := prog_9_method_1_code
def yX7_init : MethodName := ⟨RX7, "<init>", "()V"⟩
abbrev cX7_in : ByteArray := prog_9_method_3_code
def yX7_in : MethodName := ⟨RX7, "in", "(JJJ)Z"⟩
abbrev cX7_has : ByteArray := prog_9_method_4_code
def yX7_has : MethodName := ⟨RX7, "has", "(II)Z"⟩
abbrev cX7_ones : ByteArray := prog_9_method_5_code
def yX7_ones : MethodName := ⟨RX7, "ones", "(I)I"⟩
abbrev cX7_write : ByteArray := prog_9_method_6_code
def yX7_write : MethodName := ⟨RX7, "write", "(I)I"⟩
abbrev cX7_wipe : ByteArray := prog_9_method_7_code
def yX7_wipe : MethodName := ⟨RX7, "wipe", "()I"⟩
abbrev cX7_figureOf : ByteArray := prog_9_method_8_code
def yX7_figureOf : MethodName := ⟨RX7, "figureOf", "(II)I"⟩
abbrev cX7_readText : ByteArray := prog_9_method_9_code
def yX7_readText : MethodName := ⟨RX7, "readText", "()I"⟩
abbrev cX7_readPart : ByteArray := prog_9_method_10_code
def yX7_readPart : MethodName := ⟨RX7, "readPart", "(I)V"⟩
abbrev cX7_fault : ByteArray := prog_9_method_11_code
def yX7_fault : MethodName := ⟨RX7, "fault", "()I"⟩
abbrev cX7_town : ByteArray := prog_9_method_12_code
def yX7_town : MethodName := ⟨RX7, "town", "()I"⟩
abbrev cX7_isPin : ByteArray := prog_9_method_13_code
def yX7_isPin : MethodName := ⟨RX7, "isPin", "(I)Z"⟩
abbrev cX7_isThing : ByteArray := prog_9_method_14_code
def yX7_isThing : MethodName := ⟨RX7, "isThing", "(I)Z"⟩
abbrev cX7_all : ByteArray := prog_9_method_15_code
def yX7_all : MethodName := ⟨RX7, "all", "()I"⟩
abbrev cX7_withBy : ByteArray := prog_9_method_16_code
def yX7_withBy : MethodName := ⟨RX7, "withBy", "(II)I"⟩
abbrev cX7_isTogether : ByteArray := prog_9_method_17_code
def yX7_isTogether : MethodName := ⟨RX7, "isTogether", "(III)Z"⟩
abbrev cX7_pairsBy : ByteArray := prog_9_method_18_code
def yX7_pairsBy : MethodName := ⟨RX7, "pairsBy", "(I)I"⟩
abbrev cX7_doableBy : ByteArray := prog_9_method_19_code
def yX7_doableBy : MethodName := ⟨RX7, "doableBy", "(I)I"⟩
abbrev cX7_unload : ByteArray := prog_9_method_20_code
def yX7_unload : MethodName := ⟨RX7, "unload", "()V"⟩
abbrev cX7_holdsOn : ByteArray := prog_9_method_21_code
def yX7_holdsOn : MethodName := ⟨RX7, "holdsOn", "(II)I"⟩
abbrev cX7_onBoth : ByteArray := prog_9_method_22_code
def yX7_onBoth : MethodName := ⟨RX7, "onBoth", "(I)I"⟩
abbrev cX7_ping : ByteArray := prog_9_method_23_code
def yX7_ping : MethodName := ⟨RX7, "ping", "(I)I"⟩
abbrev cX7_tugOn : ByteArray := prog_9_method_24_code
def yX7_tugOn : MethodName := ⟨RX7, "tugOn", "(III)I"⟩
abbrev cX7_passOn : ByteArray := prog_9_method_25_code
def yX7_passOn : MethodName := ⟨RX7, "passOn", "(I)I"⟩
abbrev cX7_shutOn : ByteArray := prog_9_method_26_code
def yX7_shutOn : MethodName := ⟨RX7, "shutOn", "(II)V"⟩
abbrev cX7_pin : ByteArray := prog_9_method_27_code
def yX7_pin : MethodName := ⟨RX7, "pin", "(II)I"⟩
abbrev cX7_with : ByteArray := prog_9_method_28_code
def yX7_with : MethodName := ⟨RX7, "with", "(I)I"⟩
abbrev cX7_keepAct : ByteArray := prog_9_method_29_code
def yX7_keepAct : MethodName := ⟨RX7, "keepAct", "()V"⟩
abbrev cX7_day : ByteArray := prog_9_method_30_code
def yX7_day : MethodName := ⟨RX7, "day", "()I"⟩
abbrev cX7_tug : ByteArray := prog_9_method_31_code
def yX7_tug : MethodName := ⟨RX7, "tug", "(II)I"⟩
abbrev cX7_shut : ByteArray := prog_9_method_32_code
def yX7_shut : MethodName := ⟨RX7, "shut", "(I)I"⟩
abbrev cX7_open : ByteArray := prog_9_method_33_code
def yX7_open : MethodName := ⟨RX7, "open", "(I)I"⟩
abbrev cX7_undo : ByteArray := prog_9_method_34_code
def yX7_undo : MethodName := ⟨RX7, "undo", "()I"⟩
abbrev cX7_layTrial : ByteArray := prog_9_method_35_code
def yX7_layTrial : MethodName := ⟨RX7, "layTrial", "()V"⟩
abbrev cX7_later : ByteArray := prog_9_method_36_code
def yX7_later : MethodName := ⟨RX7, "later", "(I)I"⟩
abbrev cX7_lasts : ByteArray := prog_9_method_37_code
def yX7_lasts : MethodName := ⟨RX7, "lasts", "(I)I"⟩
abbrev cX7_chain : ByteArray := prog_9_method_38_code
def yX7_chain : MethodName := ⟨RX7, "chain", "(I)I"⟩
abbrev cX7_cuts : ByteArray := prog_9_method_39_code
def yX7_cuts : MethodName := ⟨RX7, "cuts", "(II)I"⟩
abbrev cX7_parts : ByteArray := prog_9_method_40_code
def yX7_parts : MethodName := ⟨RX7, "parts", "(III)I"⟩
abbrev cX7_letsGo : ByteArray := prog_9_method_41_code
def yX7_letsGo : MethodName := ⟨RX7, "letsGo", "(I)I"⟩
abbrev cX7_tryThing : ByteArray := prog_9_method_42_code
def yX7_tryThing : MethodName := ⟨RX7, "tryThing", "(III)Z"⟩
abbrev cX7_thousandTo : ByteArray := prog_9_method_43_code
def yX7_thousandTo : MethodName := ⟨RX7, "thousandTo", "(I)J"⟩
abbrev cX7_judge : ByteArray := prog_9_method_44_code
def yX7_judge : MethodName := ⟨RX7, "judge", "(IJ)I"⟩
abbrev cX7_trial : ByteArray := prog_9_method_45_code
def yX7_trial : MethodName := ⟨RX7, "trial", "(II)I"⟩
abbrev cX7_untry : ByteArray := prog_9_method_46_code
def yX7_untry : MethodName := ⟨RX7, "untry", "()I"⟩
abbrev cX7_which : ByteArray := prog_9_method_47_code
def yX7_which : MethodName := ⟨RX7, "which", "(I)I"⟩
abbrev cX7_factorial : ByteArray := prog_9_method_48_code
def yX7_factorial : MethodName := ⟨RX7, "factorial", "(I)I"⟩
abbrev cX7_common : ByteArray := prog_9_method_49_code
def yX7_common : MethodName := ⟨RX7, "common", "(II)I"⟩
abbrev cX7_share : ByteArray := prog_9_method_50_code
def yX7_share : MethodName := ⟨RX7, "share", "(IZ)I"⟩
abbrev cX7_gain : ByteArray := prog_9_method_51_code
def yX7_gain : MethodName := ⟨RX7, "gain", "(IIII)I"⟩
abbrev cX7_isRest : ByteArray := prog_9_method_52_code
def yX7_isRest : MethodName := ⟨RX7, "isRest", "(IIII)Z"⟩
abbrev cX7_rests : ByteArray := prog_9_method_53_code
def yX7_rests : MethodName := ⟨RX7, "rests", "(III)I"⟩
abbrev cX7_power : ByteArray := prog_9_method_54_code
def yX7_power : MethodName := ⟨RX7, "power", "(II)I"⟩
abbrev cX7_gives : ByteArray := prog_9_method_55_code
def yX7_gives : MethodName := ⟨RX7, "gives", "(IIIZ)I"⟩
abbrev cX7_seed : ByteArray := prog_9_method_56_code
def yX7_seed : MethodName := ⟨RX7, "seed", "(J)J"⟩
abbrev cX7_seasons : ByteArray := prog_9_method_57_code
def yX7_seasons : MethodName := ⟨RX7, "seasons", "(I)I"⟩
abbrev cX7_keep : ByteArray := prog_9_method_58_code
def yX7_keep : MethodName := ⟨RX7, "keep", "(I)I"⟩
abbrev cX7_again : ByteArray := prog_9_method_59_code
def yX7_again : MethodName := ⟨RX7, "again", "(I)I"⟩
abbrev cX7_wearOfAll : ByteArray := prog_9_method_60_code
def yX7_wearOfAll : MethodName := ⟨RX7, "wearOfAll", "()I"⟩
abbrev cX7_count : ByteArray := prog_9_method_61_code
def yX7_count : MethodName := ⟨RX7, "count", "(I)I"⟩
def RJ6 : String := "java/lang/Integer"
def TJ6 : u_T := fun k => match k with
  | _ => ("", "", "", false)
def tyJ6 : Nat → FieldType := fun k => match k with
  | _ => .int
theorem nmJ6 : ∀ a, a < 0 → ∀ b, b < 0 → a ≠ b → (TJ6 a).2.1 ≠ (TJ6 b).2.1 := by decide +kernel
theorem tyJ6_ok : ∀ k, k < 0 → parseFieldDescriptor (TJ6 k).2.2.1 = some (tyJ6 k) := by decide +kernel
abbrev cJ6_bitCount_0f7a4 : ByteArray := prog_10_method_49_code
def yJ6_bitCount_0f7a4 : MethodName := ⟨RJ6, "bitCount", "(I)I"⟩
def RJ9 : String := "java/lang/Math"
def TJ9 : u_T := fun k => match k with
  | _ => ("", "", "", false)
def tyJ9 : Nat → FieldType := fun k => match k with
  | _ => .int
theorem nmJ9 : ∀ a, a < 0 → ∀ b, b < 0 → a ≠ b → (TJ9 a).2.1 ≠ (TJ9 b).2.1 := by decide +kernel
theorem tyJ9_ok : ∀ k, k < 0 → parseFieldDescriptor (TJ9 k).2.2.1 = some (tyJ9 k) := by decide +kernel
abbrev cJ9_floorMod_7cf53 : ByteArray := prog_11_method_50_code
def yJ9_floorMod_7cf53 : MethodName := ⟨RJ9, "floorMod", "(II)I"⟩
abbrev cJ9_max_7cf53 : ByteArray := prog_11_method_65_code
def yJ9_max_7cf53 : MethodName := ⟨RJ9, "max", "(II)I"⟩
abbrev cJ9_max_f86c9 : ByteArray := prog_11_method_66_code
def yJ9_max_f86c9 : MethodName := ⟨RJ9, "max", "(JJ)J"⟩
abbrev cJ9_min_7cf53 : ByteArray := prog_11_method_69_code
def yJ9_min_7cf53 : MethodName := ⟨RJ9, "min", "(II)I"⟩
def RL : String := "SafetyPinsLaw"
abbrev cL_law : ByteArray := code
def yL_law : MethodName := ⟨RL, "law", "([I)Z"⟩
abbrev vwCl : List vw_C := [(RX0, TX0, 3), (RX1, TX1, 2), (RX2, TX2, 3), (RX3, TX3, 2), (RX4, TX4, 11), (RX5, TX5, 3), (RX6, TX6, 12), (RX7, TX7, 32)]
end
section
def z_tb : List Cond := lw_tbl.filter goodWord
theorem z_in {w : Cond} (i : Nat) (h : tables_1[i]? = some w) (g : goodWord w = true := by rfl) : w ∈ z_tb := List.mem_filter.mpr ⟨List.mem_append_right _ (List.mem_of_getElem? h), g⟩
theorem z_inp {q : MethodName × Nat} (i : Nat) (h : lw_privs[i]? = some q) : Cond.selects q.1.cls q.1 q.1 ∈ z_tb := List.mem_filter.mpr ⟨List.mem_append_left _ (List.mem_map.mpr ⟨q, List.mem_of_getElem? h, rfl⟩), rfl⟩
theorem z_ui {ws : List Cond} (ps : List Nat) (h : ws = ps.filterMap (fun i => tables_1[i]?)) (g : ws.all goodWord = true) : ∀ w ∈ ws, w ∈ z_tb := by
  intro w hw
  have hg := List.all_eq_true.mp g w hw
  rw [h] at hw
  obtain ⟨i, -, hi⟩ := List.mem_filterMap.mp hw
  exact z_in i hi hg
theorem z_u0 : ∀ w ∈ u_ws RX0 TX0 3, w ∈ z_tb := z_ui [138, 140, 142] (by decide +kernel) (by decide +kernel)
theorem z_u1 : ∀ w ∈ u_ws RX1 TX1 2, w ∈ z_tb := z_ui [98, 100] (by decide +kernel) (by decide +kernel)
theorem z_u2 : ∀ w ∈ u_ws RX2 TX2 3, w ∈ z_tb := z_ui [118, 120, 122] (by decide +kernel) (by decide +kernel)
theorem z_u3 : ∀ w ∈ u_ws RX3 TX3 2, w ∈ z_tb := z_ui [30, 32] (by decide +kernel) (by decide +kernel)
theorem z_u4 : ∀ w ∈ u_ws RX4 TX4 11, w ∈ z_tb := z_ui [67, 69, 71, 73, 75, 77, 79, 81, 83, 85, 87] (by decide +kernel) (by decide +kernel)
theorem z_u5 : ∀ w ∈ u_ws RX5 TX5 3, w ∈ z_tb := z_ui [155, 157, 159] (by decide +kernel) (by decide +kernel)
theorem z_u6 : ∀ w ∈ u_ws RX6 TX6 12, w ∈ z_tb := z_ui [175, 177, 179, 181, 183, 185, 187, 189, 191, 193, 195, 197] (by decide +kernel) (by decide +kernel)
theorem z_u7 : ∀ w ∈ u_ws RX7 TX7 32, w ∈ z_tb := z_ui [596, 598, 600, 602, 604, 606, 608, 610, 612, 614, 616, 618, 620, 622, 624, 626, 628, 630, 632, 634, 636, 638, 640, 642, 644, 646, 648, 650, 652, 654, 656, 658] (by decide +kernel) (by decide +kernel)
end
section
/-! ABSTRACT MEMORY: every object and array has a number (its place in z_shp); M.1 id k: the int in slot k of object id (or place k of array id); M.2 id k: the long in slot k. References are constant. -/
abbrev z_Mem : Type := (Nat → Nat → Int32) × (Nat → Nat → Int64)
/-- a shape: an int array (kind, length); an object (class, its slots: 0 int, 1 long, j + 2 a reference to j); an array of references -/
abbrev z_Sh : Type := (Nat × Nat) ⊕ ((Nat × List Nat) ⊕ List Nat)
def z_fv (ad : Nat → Nat) (M : z_Mem) (id k : Nat) : Nat → Value
  | 0 => .int (M.1 id k)
  | 1 => .long (M.2 id k)
  | j + 2 => .ref (ad j)
def z_fs (ad : Nat → Nat) (M : z_Mem) (id : Nat) : Nat → List Nat → List Value
  | _, [] => []
  | k, f :: fs => z_fv ad M id k f :: z_fs ad M id (k + 1) fs
def z_ent (cy : Nat → ClassId) (ad : Nat → Nat) (M : z_Mem) (id : Nat) : z_Sh → va_E
  | .inl q => .inl (cy q.1, q.2, .inl (M.1 id))
  | .inr (.inl q) => .inr (q.1, z_fs ad M id 0 q.2)
  | .inr (.inr l) => .inl (cy 2, l.length, .inr (.inr (.inr (.inr (fun k => (l[k]?).map ad)))))
def z_wdf (cy : Nat → ClassId) (ad : Nat → Nat) (M : z_Mem) : Nat → List z_Sh → va_W
  | _, [] => []
  | i, s :: l => (ad i, z_ent cy ad M i s) :: z_wdf cy ad M (i + 1) l

def z_shp : List z_Sh := [.inr (.inl (6, [3, 5, 14, 16, 18, 20, 50, 55, 56, 59, 60, 1])), .inr (.inl (3, [4, 0])), .inl (0, 60), .inr (.inl (4, [0, 6, 7, 8, 9, 0, 10, 11, 0, 12, 13])), .inl (0, 7), .inl (0, 7), .inl (0, 7), .inl (0, 7), .inl (0, 4), .inl (0, 4), .inl (0, 3), .inl (0, 3), .inr (.inl (1, [5, 15])), .inl (0, 6), .inr (.inl (2, [0, 17, 0])), .inl (0, 7), .inr (.inl (2, [0, 19, 0])), .inl (0, 7), .inr (.inl (0, [21, 0, 0])), .inr (.inr [20, 22, 24, 26, 28, 30, 32, 34, 36, 38, 40, 42, 44, 46]), .inr (.inl (2, [0, 23, 0])), .inl (0, 7), .inr (.inl (2, [0, 25, 0])), .inl (0, 7), .inr (.inl (2, [0, 27, 0])), .inl (0, 7), .inr (.inl (2, [0, 29, 0])), .inl (0, 7), .inr (.inl (2, [0, 31, 0])), .inl (0, 7), .inr (.inl (2, [0, 33, 0])), .inl (0, 7), .inr (.inl (2, [0, 35, 0])), .inl (0, 7), .inr (.inl (2, [0, 37, 0])), .inl (0, 7), .inr (.inl (2, [0, 39, 0])), .inl (0, 7), .inr (.inl (2, [0, 41, 0])), .inl (0, 7), .inr (.inl (2, [0, 43, 0])), .inl (0, 7), .inr (.inl (2, [0, 45, 0])), .inl (0, 7), .inr (.inl (2, [0, 47, 0])), .inl (0, 7), .inr (.inl (2, [0, 49, 0])), .inl (0, 7), .inr (.inr [49, 51]), .inr (.inl (2, [0, 52, 0])), .inl (0, 7), .inr (.inl (2, [0, 54, 0])), .inl (0, 7), .inl (1, 2), .inr (.inl (5, [57, 58, 0])), .inl (0, 6), .inl (1, 6), .inl (0, 9), .inl (0, 9), .inr (.inl (7, [0, 0, 0, 62, 63, 64, 65, 66, 67, 68, 69, 70, 71, 72, 73, 0, 0, 0, 74, 0, 0, 0, 75, 0, 0, 76, 0, 77, 78, 1, 79, 80])), .inl (0, 7), .inl (0, 7), .inl (0, 7), .inl (0, 7), .inl (0, 4), .inl (0, 4), .inl (0, 3), .inl (0, 3), .inl (0, 18), .inl (0, 28), .inl (0, 8), .inl (0, 6), .inl (0, 60), .inl (0, 6), .inl (0, 126), .inl (0, 6), .inl (0, 6), .inl (1, 2), .inl (0, 18)]
def z_wd (cy : Nat → ClassId) (ad : Nat → Nat) (M : z_Mem) : va_W := z_wdf cy ad M 0 z_shp
def z_ty (cy : Nat → ClassId) : List (ClassId × FieldType) := [(cy 0, .int), (cy 1, .boolean), (cy 2, .object "SafetyPins$Plight")]
def z_A (ad : Nat → Nat) : Nat → Prop := fun q => ∃ i, i < 79 ∧ q = ad i
def z_FA : List Int32 := [1, 1, 2, 6, 24, 120, 720, 5040]
def z_TH : List Int64 := [1, 1000, 1000000, 1000000000, 1000000000000]
/-- the class's two static arrays, as they stand ahead of the law -/
def z_st (ad : Nat → Nat) (U : State) (H : Heap) : Prop := va_Z "SafetyPins" "FACTORIALS" "[I" (.ref (ad 1000)) (z_A ad) U H ∧ va_Z "SafetyPins" "THOUSANDS" "[J" (.ref (ad 1001)) (z_A ad) U H ∧ va_T .int (ad 1000) 8 (fun k => .int (z_FA.getD k 0)) (z_A ad) U H ∧ va_T .long (ad 1001) 5 (fun k => .long (z_TH.getD k 0)) (z_A ad) U H
theorem z_st_moved {ad : Nat → Nat} {u U : State} {H : Heap} (hvm : u.vm.Alike U.vm) (h : z_st ad u H) : z_st ad U H := ⟨va_Z.moved hvm h.1, va_Z.moved hvm h.2.1, va_T.moved hvm h.2.2.1, va_T.moved hvm h.2.2.2⟩
theorem z_st_kept {ad : Nat → Nat} {U : State} {H H1 : Heap} (h : z_st ad U H) (hq : ∀ a : Nat, a < H.size → ¬ z_A ad a → H1[a]? = H[a]?) : z_st ad U H1 := ⟨h.1.kept hq, h.2.1.kept hq, h.2.2.1.kept hq, h.2.2.2.kept hq⟩
-- worlds
theorem z_fs_get {ad : Nat → Nat} {M : z_Mem} {id : Nat} : ∀ (l : List Nat) (j k f : Nat), l[k]? = some f → (z_fs ad M id j l)[k]? = some (z_fv ad M id (j + k) f)
  | [], j, k, f, h => by simp at h
  | g :: l, j, 0, f, h => by
    simp at h
    subst h
    simp [z_fs]
  | g :: l, j, k + 1, f, h => by
    have := z_fs_get (ad := ad) (M := M) (id := id) l (j + 1) k f (by simpa using h)
    rw [z_fs, List.getElem?_cons_succ, this, show j + 1 + k = j + (k + 1) by omega]
theorem z_fs_len {ad : Nat → Nat} {M : z_Mem} {id : Nat} : ∀ (l : List Nat) (j : Nat), (z_fs ad M id j l).length = l.length
  | [], _ => rfl
  | _ :: l, j => by rw [z_fs, List.length_cons, List.length_cons, z_fs_len l (j + 1)]
theorem z_fv_cong {ad : Nat → Nat} {M N : z_Mem} {id k : Nat} (h1 : N.1 id k = M.1 id k) (h2 : N.2 id k = M.2 id k) : ∀ f, z_fv ad N id k f = z_fv ad M id k f
  | 0 => by rw [z_fv, z_fv, h1]
  | 1 => by rw [z_fv, z_fv, h2]
  | _ + 2 => rfl
theorem z_fs_cong {ad : Nat → Nat} {M N : z_Mem} {id : Nat} : ∀ (l : List Nat) (j : Nat), (∀ b, j ≤ b → N.1 id b = M.1 id b) → (∀ b, j ≤ b → N.2 id b = M.2 id b) → z_fs ad N id j l = z_fs ad M id j l
  | [], _, _, _ => rfl
  | f :: l, j, h1, h2 => by rw [z_fs, z_fs, z_fs_cong l (j + 1) (fun b hb => h1 b (by omega)) (fun b hb => h2 b (by omega)), z_fv_cong (h1 j (Nat.le_refl j)) (h2 j (Nat.le_refl j))]
theorem z_fs_set {ad : Nat → Nat} {M N : z_Mem} {id : Nat} {v : Value} : ∀ (l : List Nat) (j k f : Nat), l[k]? = some f → z_fv ad N id (j + k) f = v → (∀ b, b ≠ j + k → N.1 id b = M.1 id b) → (∀ b, b ≠ j + k → N.2 id b = M.2 id b) → (z_fs ad M id j l).set k v = z_fs ad N id j l
  | [], j, k, f, h, _, _, _ => by simp at h
  | g :: l, j, 0, f, h, hv, h1, h2 => by
    simp at h
    subst h
    rw [z_fs, z_fs, List.set_cons_zero, z_fs_cong l (j + 1) (fun b hb => h1 b (by omega)) (fun b hb => h2 b (by omega)), ← hv, Nat.add_zero]
  | g :: l, j, k + 1, f, h, hv, h1, h2 => by
    have e : j + 1 + k = j + (k + 1) := by omega
    rw [z_fs, z_fs, List.set_cons_succ, z_fs_set l (j + 1) k f (by simpa using h) (by rw [e]; exact hv) (fun b hb => h1 b (by omega)) (fun b hb => h2 b (by omega)), z_fv_cong (h1 j (by omega)) (h2 j (by omega))]
theorem z_ent_cong {cy : Nat → ClassId} {ad : Nat → Nat} {M N : z_Mem} {id : Nat} (h1 : N.1 id = M.1 id) (h2 : N.2 id = M.2 id) : ∀ s : z_Sh, z_ent cy ad N id s = z_ent cy ad M id s
  | .inl q => by rw [z_ent, z_ent, h1]
  | .inr (.inl q) => by
    show Sum.inr (q.1, z_fs ad N id 0 q.2) = Sum.inr (q.1, z_fs ad M id 0 q.2)
    rw [z_fs_cong (M := M) (N := N) q.2 0 (fun b _ => by rw [h1]) (fun b _ => by rw [h2])]
  | .inr (.inr l) => rfl
theorem z_wdf_get {cy : Nat → ClassId} {ad : Nat → Nat} {M : z_Mem} : ∀ (l : List z_Sh) (i k : Nat) (s : z_Sh), l[k]? = some s → (z_wdf cy ad M i l)[k]? = some (ad (i + k), z_ent cy ad M (i + k) s)
  | [], i, k, s, h => by simp at h
  | t :: l, i, 0, s, h => by
    simp at h
    subst h
    simp [z_wdf]
  | t :: l, i, k + 1, s, h => by
    have := z_wdf_get (cy := cy) (ad := ad) (M := M) l (i + 1) k s (by simpa using h)
    rw [z_wdf, List.getElem?_cons_succ, this, show i + 1 + k = i + (k + 1) by omega]
theorem z_wdf_len {cy : Nat → ClassId} {ad : Nat → Nat} {M : z_Mem} : ∀ (l : List z_Sh) (i : Nat), (z_wdf cy ad M i l).length = l.length
  | [], _ => rfl
  | _ :: l, i => by rw [z_wdf, List.length_cons, List.length_cons, z_wdf_len l (i + 1)]
theorem z_wdf_cong {cy : Nat → ClassId} {ad : Nat → Nat} {M N : z_Mem} : ∀ (l : List z_Sh) (i : Nat), (∀ a, i ≤ a → N.1 a = M.1 a ∧ N.2 a = M.2 a) → z_wdf cy ad N i l = z_wdf cy ad M i l
  | [], _, _ => rfl
  | t :: l, i, h => by rw [z_wdf, z_wdf, z_wdf_cong l (i + 1) (fun a ha => h a (by omega)), z_ent_cong (h i (Nat.le_refl i)).1 (h i (Nat.le_refl i)).2]
theorem z_wdf_set {cy : Nat → ClassId} {ad : Nat → Nat} {M N : z_Mem} : ∀ (l : List z_Sh) (i k : Nat) (s : z_Sh), (∀ a, a ≠ i + k → N.1 a = M.1 a ∧ N.2 a = M.2 a) → l[k]? = some s → z_wdf cy ad N i l = (z_wdf cy ad M i l).set k (ad (i + k), z_ent cy ad N (i + k) s)
  | [], i, k, s, _, h => by simp at h
  | t :: l, i, 0, s, hq, h => by
    simp at h
    subst h
    rw [z_wdf, z_wdf, List.set_cons_zero, z_wdf_cong (M := M) (N := N) l (i + 1) (fun a ha => hq a (by omega))]
    simp
  | t :: l, i, k + 1, s, hq, h => by
    have e : i + 1 + k = i + (k + 1) := by omega
    rw [z_wdf, z_wdf, List.set_cons_succ, z_wdf_set (M := M) l (i + 1) k s (fun a ha => hq a (by omega)) (by simpa using h), z_ent_cong (hq i (by omega)).1 (hq i (by omega)).2, e]
theorem z_wd_get {cy : Nat → ClassId} {ad : Nat → Nat} {M : z_Mem} {k : Nat} {s : z_Sh} (h : z_shp[k]? = some s) : (z_wd cy ad M)[k]? = some (ad k, z_ent cy ad M k s) := by
  have := z_wdf_get (cy := cy) (ad := ad) (M := M) z_shp 0 k s h
  rwa [Nat.zero_add] at this
theorem z_wd_set {cy : Nat → ClassId} {ad : Nat → Nat} {M N : z_Mem} {k : Nat} {s : z_Sh} (hq : ∀ a, a ≠ k → N.1 a = M.1 a ∧ N.2 a = M.2 a) (h : z_shp[k]? = some s) : (z_wd cy ad M).set k (ad k, z_ent cy ad N k s) = z_wd cy ad N := by
  have := z_wdf_set (cy := cy) (ad := ad) (M := M) (N := N) z_shp 0 k s (by rw [Nat.zero_add]; exact hq) h
  rw [Nat.zero_add] at this
  exact this.symm
-- memory
def z_row (M : z_Mem) (id : Nat) (f : Nat → Int32) : z_Mem := (fun a => if a = id then f else M.1 a, M.2)
def z_set (M : z_Mem) (id k : Nat) (v : Int32) : z_Mem := z_row M id (upd (M.1 id) k v)
def z_setL (M : z_Mem) (id k : Nat) (v : Int64) : z_Mem := (M.1, fun a => if a = id then (fun b => if b = k then v else M.2 a b) else M.2 a)
theorem z_row_1 (M : z_Mem) (id : Nat) (f : Nat → Int32) : (z_row M id f).1 id = f := by simp [z_row]
theorem z_row_n (M : z_Mem) {id a : Nat} (f : Nat → Int32) (h : a ≠ id) : (z_row M id f).1 a = M.1 a := by simp [z_row, h]
theorem z_row_2 (M : z_Mem) (id : Nat) (f : Nat → Int32) : (z_row M id f).2 = M.2 := rfl
theorem z_row_same (M : z_Mem) (id : Nat) : z_row M id (M.1 id) = M := by
  refine Prod.ext (funext fun a => ?_) rfl
  show (if a = id then M.1 id else M.1 a) = M.1 a
  by_cases h : a = id
  · rw [if_pos h, h]
  · rw [if_neg h]
theorem z_row_row (M : z_Mem) (id : Nat) (f g : Nat → Int32) : z_row (z_row M id f) id g = z_row M id g := by
  refine Prod.ext (funext fun a => ?_) rfl
  show (if a = id then g else if a = id then f else M.1 a) = if a = id then g else M.1 a
  by_cases h : a = id <;> simp [h]
theorem z_row_comm (M : z_Mem) {i j : Nat} (f g : Nat → Int32) (h : i ≠ j) : z_row (z_row M i f) j g = z_row (z_row M j g) i f := by
  refine Prod.ext (funext fun a => ?_) rfl
  show (if a = j then g else if a = i then f else M.1 a) = if a = i then f else if a = j then g else M.1 a
  by_cases h1 : a = j
  · subst h1
    rw [if_pos rfl, if_neg (Ne.symm h), if_pos rfl]
  · rw [if_neg h1, if_neg h1]
-- values
def z_mv (ad : Nat → Nat) : Value → Value
  | .ref i => .ref (ad i)
  | v => v
theorem z_cat (ad : Nat → Nat) (v : Value) : (z_mv ad v).category = v.category := by cases v <;> rfl
theorem z_cats (ad : Nat → Nat) (st : List Value) : ((st.map (z_mv ad)).map fun v => v.category) = st.map fun v => v.category := by
  rw [List.map_map]
  exact List.map_congr_left (fun v _ => z_cat ad v)
def z_pv (M : z_Mem) (id k : Nat) : Nat → Value
  | 0 => .int (M.1 id k)
  | 1 => .long (M.2 id k)
  | j + 2 => .ref j
theorem z_pv_mv (ad : Nat → Nat) (M : z_Mem) (id k : Nat) : ∀ f, z_mv ad (z_pv M id k f) = z_fv ad M id k f
  | 0 => rfl
  | 1 => rfl
  | _ + 2 => rfl
-- locals
def z_Lo (ad : Nat → Nat) (nL : Nat) (ls : List (Option Value)) (ar : Array Slot) : Prop := ar.size = nL ∧ lv_wf ar ∧ ∀ (i : Nat) (v : Value), ls[i]? = some (some v) → ar[i]? = some (.val (z_mv ad v))
def z_okst (i : Nat) (ls : List (Option Value)) : Bool := match i with
  | 0 => true
  | j + 1 => match ls[j]? with
    | some (some v) => v.category != 2
    | _ => true
def z_lvl (ad : Nat → Nat) (ls : List (Option Value)) : List (Nat × Value) := (List.range ls.length).filterMap (fun i => match ls[i]? with
  | some (some v) => some (i, z_mv ad v)
  | _ => none)
theorem z_lvl_in {ad : Nat → Nat} {ls : List (Option Value)} {i : Nat} {v : Value} (h : ls[i]? = some (some v)) : (i, z_mv ad v) ∈ z_lvl ad ls := by
  refine List.mem_filterMap.mpr ⟨i, List.mem_range.mpr (List.getElem?_eq_some_iff.mp h).1, ?_⟩
  rw [h]
theorem z_lvl_of {ad : Nat → Nat} {ls : List (Option Value)} {q : Nat × Value} (h : q ∈ z_lvl ad ls) : ∃ v, ls[q.1]? = some (some v) ∧ q.2 = z_mv ad v := by
  obtain ⟨i, -, h2⟩ := List.mem_filterMap.mp h
  split at h2
  · next v hv =>
    cases h2
    exact ⟨v, hv, rfl⟩
  · cases h2
theorem z_lvh {ad : Nat → Nat} {nL : Nat} {ls : List (Option Value)} {ar : Array Slot} (h : z_Lo ad nL ls ar) : lv_has ar nL (z_lvl ad ls) := by
  refine ⟨h.1, h.2.1, fun q hq => ?_⟩
  obtain ⟨v, h1, h2⟩ := z_lvl_of hq
  rw [h2]
  exact h.2.2 _ _ h1
theorem z_lv1 {ad : Nat → Nat} {nL i : Nat} {ls : List (Option Value)} {ar : Array Slot} {v : Value} (hi : z_okst i ls = true) (h : lv_has ar nL ((i, z_mv ad v) :: (z_lvl ad ls).filter (fun q => !(q.1 == i) && !(q.1 + 1 == i && q.2.category == 2)))) : z_Lo ad nL (ls.set i (some v)) ar := by
  refine ⟨h.1, h.2.1, fun j w hj => ?_⟩
  by_cases e : i = j
  · subst e
    have hlt : i < ls.length := by
      have := (List.getElem?_eq_some_iff.mp hj).1
      rwa [List.length_set] at this
    rw [List.getElem?_set_self hlt] at hj
    cases hj
    exact h.2.2 _ List.mem_cons_self
  · rw [List.getElem?_set_ne e] at hj
    refine h.2.2 (j, z_mv ad w) (List.mem_cons_of_mem _ (List.mem_filter.mpr ⟨z_lvl_in hj, ?_⟩))
    have h1 : (j == i) = false := by simpa using (Ne.symm e)
    show (!(j == i) && !(j + 1 == i && (z_mv ad w).category == 2)) = true
    rw [h1, z_cat]
    by_cases h2 : j + 1 = i
    · subst h2
      simp only [z_okst, hj] at hi
      simpa using hi
    · have : (j + 1 == i) = false := by simpa using h2
      simp [this]
theorem z_lv2 {ad : Nat → Nat} {nL i : Nat} {ls : List (Option Value)} {ar : Array Slot} {v : Value} (hi : z_okst i ls = true) (h : lv_has ar nL ((i, z_mv ad v) :: (z_lvl ad ls).filter (fun q => !(q.1 == i) && (!(q.1 == i + 1) && !(q.1 + 1 == i && q.2.category == 2))))) : z_Lo ad nL ((ls.set i (some v)).set (i + 1) none) ar := by
  refine ⟨h.1, h.2.1, fun j w hj => ?_⟩
  have e2 : i + 1 ≠ j := by
    intro e
    subst e
    have hlt := (List.getElem?_eq_some_iff.mp hj).1
    rw [List.length_set] at hlt
    rw [List.getElem?_set_self hlt] at hj
    cases hj
  rw [List.getElem?_set_ne e2] at hj
  by_cases e : i = j
  · subst e
    have hlt : i < ls.length := by
      have := (List.getElem?_eq_some_iff.mp hj).1
      rwa [List.length_set] at this
    rw [List.getElem?_set_self hlt] at hj
    cases hj
    exact h.2.2 _ List.mem_cons_self
  · rw [List.getElem?_set_ne e] at hj
    refine h.2.2 (j, z_mv ad w) (List.mem_cons_of_mem _ (List.mem_filter.mpr ⟨z_lvl_in hj, ?_⟩))
    have h1 : (j == i) = false := by simpa using (Ne.symm e)
    have h3 : (j == i + 1) = false := by simpa using (Ne.symm e2)
    show (!(j == i) && (!(j == i + 1) && !(j + 1 == i && (z_mv ad w).category == 2))) = true
    rw [h1, h3, z_cat]
    by_cases h2 : j + 1 = i
    · subst h2
      simp only [z_okst, hj] at hi
      simpa using hi
    · have : (j + 1 == i) = false := by simpa using h2
      simp [this]
-- a method's constants: code, own class, number of locals, answer's type, its name, level (of calls below it)
abbrev z_MC : Type := ByteArray × String × Nat × Option FieldType × MethodName × Nat
def z_ws (cx : z_MC) : List Cond := Cond.code cx.2.2.2.2.1 cx.1 cx.2.2.1 cx.2.2.2.1 :: z_tb
def z_rm (lv : Nat) : Room := { frames := lv, cells := 0, slots := 0, locals := 36 * lv }
def z_Pre (D : va_G) (cy : Nat → ClassId) (ad : Nat → Nat) (M : z_Mem) (U : State) : Prop := va_P D vwCl (z_wd cy ad M) U.heap ∧ va_K D vwCl (z_ty cy) U ∧ va_D (z_A ad) (z_wd cy ad M) ∧ z_st ad U U.heap
def z_Q (D : va_G) (cy : Nat → ClassId) (ad : Nat → Nat) (r : Option Value) (M : z_Mem) : Array Value → State → Outcome → State → Prop := fun _ st oc t => (oc = .returned (r.map (z_mv ad)) ∧ z_Pre D cy ad M t) ∧ va_F (z_A ad) st t
def z_Fx (cx : z_MC) (D : va_G) (cy : Nat → ClassId) (ad : Nat → Nat) (p : Program) (s : State) (m : MethodId) (args : Array Value) (meth : Method) (c : Code) : Prop := p.tables.exec = Jvm.exec ∧ c.code = cx.1 ∧ c.maxLocals = cx.2.2.1 ∧ meth.sig.returnType = cx.2.2.2.1 ∧ s.vm.findClass cx.2.1 = some m.cls ∧ (∀ w ∈ z_ws cx, w.before args s = true) ∧ meth.locks = false ∧ va_K D vwCl (z_ty cy) s ∧ z_st ad s s.heap
def z_Wo (D : va_G) (cy : Nat → ClassId) (ad : Nat → Nat) (s : State) (M : z_Mem) (H : Heap) (locs : List Loc) : Prop := va_P D vwCl (z_wd cy ad M) H ∧ va_D (z_A ad) (z_wd cy ad M) ∧ va_S (z_A ad) s.heap H locs
/-- from this frame over this memory the method comes to its end, with the answer r over the memory M2 -/
def z_Sm (cx : z_MC) (r : Option Value) (M2 : z_Mem) (pc : Nat) (ls : List (Option Value)) (st : List Value) (M : z_Mem) : Prop :=
  ∀ (l : Launch) (D : va_G) (cy : Nat → ClassId) (ad : Nat → Nat) (p : Program) (e : Env) (s : State) (m : MethodId) (args : Array Value) (below : List Frame) (meth : Method) (c : Code) (H : Heap) (locs : List Loc) (ar : Array Slot),
    z_Fx cx D cy ad p s m args meth c → z_Wo D cy ad s M H locs → z_Lo ad cx.2.2.1 ls ar →
    W p l e (z_rm cx.2.2.2.2.2) s m args below meth c H locs 0 0 (MQ below (z_Q D cy ad r M2) args s 0 0 (z_A ad)) (F0 m pc ar (st.map (z_mv ad)))

theorem z_iconst {cx : z_MC} {r : Option Value} {M M2 : z_Mem} {pc : Nat} {ls : List (Option Value)} {st : List Value} {n : Int} {v : Int32} (d : decode cx.1 pc = .ok (.iconst n, 1)) (hv : Int32.ofInt n = v) (k : z_Sm cx r M2 (pc + 1) ls (.int v :: st) M) : z_Sm cx r M2 pc ls (st) M := by
  intro l D cy ad p e s m args below meth c H locs ar F w h
  exact lv_iconst F.1 F.2.1 d hv (k l D cy ad p e s m args below meth c H locs ar F w h)
theorem z_bipush {cx : z_MC} {r : Option Value} {M M2 : z_Mem} {pc : Nat} {ls : List (Option Value)} {st : List Value} {n : Int} {v : Int32} (d : decode cx.1 pc = .ok (.bipush n, 2)) (hv : (Int8.ofInt n).toInt32 = v) (k : z_Sm cx r M2 (pc + 2) ls (.int v :: st) M) : z_Sm cx r M2 pc ls (st) M := by
  intro l D cy ad p e s m args below meth c H locs ar F w h
  exact lv_bipush F.1 F.2.1 d hv (k l D cy ad p e s m args below meth c H locs ar F w h)
theorem z_sipush {cx : z_MC} {r : Option Value} {M M2 : z_Mem} {pc : Nat} {ls : List (Option Value)} {st : List Value} {n : Int} {v : Int32} (d : decode cx.1 pc = .ok (.sipush n, 3)) (hv : (Int16.ofInt n).toInt32 = v) (k : z_Sm cx r M2 (pc + 3) ls (.int v :: st) M) : z_Sm cx r M2 pc ls (st) M := by
  intro l D cy ad p e s m args below meth c H locs ar F w h
  exact lv_sipush F.1 F.2.1 d hv (k l D cy ad p e s m args below meth c H locs ar F w h)
theorem z_lconst {cx : z_MC} {r : Option Value} {M M2 : z_Mem} {pc : Nat} {ls : List (Option Value)} {st : List Value} {n : Fin 2} {v : Int64} (d : decode cx.1 pc = .ok (.lconst n, 1)) (hv : Int64.ofNat (n : Nat) = v) (k : z_Sm cx r M2 (pc + 1) ls (.long v :: st) M) : z_Sm cx r M2 pc ls (st) M := by
  intro l D cy ad p e s m args below meth c H locs ar F w h
  exact lv_lconst F.1 F.2.1 d hv (k l D cy ad p e s m args below meth c H locs ar F w h)
theorem z_iadd {cx : z_MC} {r : Option Value} {M M2 : z_Mem} {pc : Nat} {ls : List (Option Value)} {st : List Value} {x y : Int32} (d : decode cx.1 pc = .ok (.iadd, 1)) (k : z_Sm cx r M2 (pc + 1) ls (.int (x + y) :: st) M) : z_Sm cx r M2 pc ls (.int y :: .int x :: st) M := by
  intro l D cy ad p e s m args below meth c H locs ar F w h
  exact lv_iadd F.1 F.2.1 d (k l D cy ad p e s m args below meth c H locs ar F w h)
theorem z_isub {cx : z_MC} {r : Option Value} {M M2 : z_Mem} {pc : Nat} {ls : List (Option Value)} {st : List Value} {x y : Int32} (d : decode cx.1 pc = .ok (.isub, 1)) (k : z_Sm cx r M2 (pc + 1) ls (.int (x - y) :: st) M) : z_Sm cx r M2 pc ls (.int y :: .int x :: st) M := by
  intro l D cy ad p e s m args below meth c H locs ar F w h
  exact lv_isub F.1 F.2.1 d (k l D cy ad p e s m args below meth c H locs ar F w h)
theorem z_imul {cx : z_MC} {r : Option Value} {M M2 : z_Mem} {pc : Nat} {ls : List (Option Value)} {st : List Value} {x y : Int32} (d : decode cx.1 pc = .ok (.imul, 1)) (k : z_Sm cx r M2 (pc + 1) ls (.int (x * y) :: st) M) : z_Sm cx r M2 pc ls (.int y :: .int x :: st) M := by
  intro l D cy ad p e s m args below meth c H locs ar F w h
  exact lv_imul F.1 F.2.1 d (k l D cy ad p e s m args below meth c H locs ar F w h)
theorem z_iand {cx : z_MC} {r : Option Value} {M M2 : z_Mem} {pc : Nat} {ls : List (Option Value)} {st : List Value} {x y : Int32} (d : decode cx.1 pc = .ok (.iand, 1)) (k : z_Sm cx r M2 (pc + 1) ls (.int (x &&& y) :: st) M) : z_Sm cx r M2 pc ls (.int y :: .int x :: st) M := by
  intro l D cy ad p e s m args below meth c H locs ar F w h
  exact lv_iand F.1 F.2.1 d (k l D cy ad p e s m args below meth c H locs ar F w h)
theorem z_ior {cx : z_MC} {r : Option Value} {M M2 : z_Mem} {pc : Nat} {ls : List (Option Value)} {st : List Value} {x y : Int32} (d : decode cx.1 pc = .ok (.ior, 1)) (k : z_Sm cx r M2 (pc + 1) ls (.int (x ||| y) :: st) M) : z_Sm cx r M2 pc ls (.int y :: .int x :: st) M := by
  intro l D cy ad p e s m args below meth c H locs ar F w h
  exact lv_ior F.1 F.2.1 d (k l D cy ad p e s m args below meth c H locs ar F w h)
theorem z_ixor {cx : z_MC} {r : Option Value} {M M2 : z_Mem} {pc : Nat} {ls : List (Option Value)} {st : List Value} {x y : Int32} (d : decode cx.1 pc = .ok (.ixor, 1)) (k : z_Sm cx r M2 (pc + 1) ls (.int (x ^^^ y) :: st) M) : z_Sm cx r M2 pc ls (.int y :: .int x :: st) M := by
  intro l D cy ad p e s m args below meth c H locs ar F w h
  exact lv_ixor F.1 F.2.1 d (k l D cy ad p e s m args below meth c H locs ar F w h)
theorem z_ishl {cx : z_MC} {r : Option Value} {M M2 : z_Mem} {pc : Nat} {ls : List (Option Value)} {st : List Value} {x y : Int32} (d : decode cx.1 pc = .ok (.ishl, 1)) (k : z_Sm cx r M2 (pc + 1) ls (.int (x <<< (y &&& 31)) :: st) M) : z_Sm cx r M2 pc ls (.int y :: .int x :: st) M := by
  intro l D cy ad p e s m args below meth c H locs ar F w h
  exact lv_ishl F.1 F.2.1 d (k l D cy ad p e s m args below meth c H locs ar F w h)
theorem z_ishr {cx : z_MC} {r : Option Value} {M M2 : z_Mem} {pc : Nat} {ls : List (Option Value)} {st : List Value} {x y : Int32} (d : decode cx.1 pc = .ok (.ishr, 1)) (k : z_Sm cx r M2 (pc + 1) ls (.int (x >>> (y &&& 31)) :: st) M) : z_Sm cx r M2 pc ls (.int y :: .int x :: st) M := by
  intro l D cy ad p e s m args below meth c H locs ar F w h
  exact lv_ishr F.1 F.2.1 d (k l D cy ad p e s m args below meth c H locs ar F w h)
theorem z_idiv {cx : z_MC} {r : Option Value} {M M2 : z_Mem} {pc : Nat} {ls : List (Option Value)} {st : List Value} {x y : Int32} (d : decode cx.1 pc = .ok (.idiv, 1)) (hne : ¬ y = 0) (k : z_Sm cx r M2 (pc + 1) ls (.int (x / y) :: st) M) : z_Sm cx r M2 pc ls (.int y :: .int x :: st) M := by
  intro l D cy ad p e s m args below meth c H locs ar F w h
  exact lv_idiv F.1 F.2.1 d hne (k l D cy ad p e s m args below meth c H locs ar F w h)
theorem z_irem {cx : z_MC} {r : Option Value} {M M2 : z_Mem} {pc : Nat} {ls : List (Option Value)} {st : List Value} {x y : Int32} (d : decode cx.1 pc = .ok (.irem, 1)) (hne : ¬ y = 0) (k : z_Sm cx r M2 (pc + 1) ls (.int (x - x / y * y) :: st) M) : z_Sm cx r M2 pc ls (.int y :: .int x :: st) M := by
  intro l D cy ad p e s m args below meth c H locs ar F w h
  exact lv_irem F.1 F.2.1 d hne (k l D cy ad p e s m args below meth c H locs ar F w h)
theorem z_ladd {cx : z_MC} {r : Option Value} {M M2 : z_Mem} {pc : Nat} {ls : List (Option Value)} {st : List Value} {x y : Int64} (d : decode cx.1 pc = .ok (.ladd, 1)) (k : z_Sm cx r M2 (pc + 1) ls (.long (x + y) :: st) M) : z_Sm cx r M2 pc ls (.long y :: .long x :: st) M := by
  intro l D cy ad p e s m args below meth c H locs ar F w h
  exact lv_ladd F.1 F.2.1 d (k l D cy ad p e s m args below meth c H locs ar F w h)
theorem z_lsub {cx : z_MC} {r : Option Value} {M M2 : z_Mem} {pc : Nat} {ls : List (Option Value)} {st : List Value} {x y : Int64} (d : decode cx.1 pc = .ok (.lsub, 1)) (k : z_Sm cx r M2 (pc + 1) ls (.long (x - y) :: st) M) : z_Sm cx r M2 pc ls (.long y :: .long x :: st) M := by
  intro l D cy ad p e s m args below meth c H locs ar F w h
  exact lv_lsub F.1 F.2.1 d (k l D cy ad p e s m args below meth c H locs ar F w h)
theorem z_lmul {cx : z_MC} {r : Option Value} {M M2 : z_Mem} {pc : Nat} {ls : List (Option Value)} {st : List Value} {x y : Int64} (d : decode cx.1 pc = .ok (.lmul, 1)) (k : z_Sm cx r M2 (pc + 1) ls (.long (x * y) :: st) M) : z_Sm cx r M2 pc ls (.long y :: .long x :: st) M := by
  intro l D cy ad p e s m args below meth c H locs ar F w h
  exact lv_lmul F.1 F.2.1 d (k l D cy ad p e s m args below meth c H locs ar F w h)
theorem z_land {cx : z_MC} {r : Option Value} {M M2 : z_Mem} {pc : Nat} {ls : List (Option Value)} {st : List Value} {x y : Int64} (d : decode cx.1 pc = .ok (.land, 1)) (k : z_Sm cx r M2 (pc + 1) ls (.long (x &&& y) :: st) M) : z_Sm cx r M2 pc ls (.long y :: .long x :: st) M := by
  intro l D cy ad p e s m args below meth c H locs ar F w h
  exact lv_land F.1 F.2.1 d (k l D cy ad p e s m args below meth c H locs ar F w h)
theorem z_lor {cx : z_MC} {r : Option Value} {M M2 : z_Mem} {pc : Nat} {ls : List (Option Value)} {st : List Value} {x y : Int64} (d : decode cx.1 pc = .ok (.lor, 1)) (k : z_Sm cx r M2 (pc + 1) ls (.long (x ||| y) :: st) M) : z_Sm cx r M2 pc ls (.long y :: .long x :: st) M := by
  intro l D cy ad p e s m args below meth c H locs ar F w h
  exact lv_lor F.1 F.2.1 d (k l D cy ad p e s m args below meth c H locs ar F w h)
theorem z_ldiv {cx : z_MC} {r : Option Value} {M M2 : z_Mem} {pc : Nat} {ls : List (Option Value)} {st : List Value} {x y : Int64} (d : decode cx.1 pc = .ok (.ldiv, 1)) (hne : ¬ y = 0) (k : z_Sm cx r M2 (pc + 1) ls (.long (x / y) :: st) M) : z_Sm cx r M2 pc ls (.long y :: .long x :: st) M := by
  intro l D cy ad p e s m args below meth c H locs ar F w h
  exact lv_ldiv F.1 F.2.1 d hne (k l D cy ad p e s m args below meth c H locs ar F w h)
theorem z_lrem {cx : z_MC} {r : Option Value} {M M2 : z_Mem} {pc : Nat} {ls : List (Option Value)} {st : List Value} {x y : Int64} (d : decode cx.1 pc = .ok (.lrem, 1)) (hne : ¬ y = 0) (k : z_Sm cx r M2 (pc + 1) ls (.long (x - x / y * y) :: st) M) : z_Sm cx r M2 pc ls (.long y :: .long x :: st) M := by
  intro l D cy ad p e s m args below meth c H locs ar F w h
  exact lv_lrem F.1 F.2.1 d hne (k l D cy ad p e s m args below meth c H locs ar F w h)
theorem z_ineg {cx : z_MC} {r : Option Value} {M M2 : z_Mem} {pc : Nat} {ls : List (Option Value)} {st : List Value} {x : Int32} (d : decode cx.1 pc = .ok (.ineg, 1)) (k : z_Sm cx r M2 (pc + 1) ls (.int (-x) :: st) M) : z_Sm cx r M2 pc ls (.int x :: st) M := by
  intro l D cy ad p e s m args below meth c H locs ar F w h
  exact lv_ineg F.1 F.2.1 d (k l D cy ad p e s m args below meth c H locs ar F w h)
theorem z_iushr {cx : z_MC} {r : Option Value} {M M2 : z_Mem} {pc : Nat} {ls : List (Option Value)} {st : List Value} {x y v : Int32} (d : decode cx.1 pc = .ok (.iushr, 1)) (hv : (x.toUInt32 >>> (y.toUInt32 &&& Int32.toUInt32 31)).toInt32 = v) (k : z_Sm cx r M2 (pc + 1) ls (.int v :: st) M) : z_Sm cx r M2 pc ls (.int y :: .int x :: st) M := by
  intro l D cy ad p e s m args below meth c H locs ar F w h
  exact lv_iushr F.1 F.2.1 d hv (k l D cy ad p e s m args below meth c H locs ar F w h)
theorem z_lushr {cx : z_MC} {r : Option Value} {M M2 : z_Mem} {pc : Nat} {ls : List (Option Value)} {st : List Value} {x v : Int64} {y : Int32} (d : decode cx.1 pc = .ok (.lushr, 1)) (hv : (x.toUInt64 >>> (y.toInt64.toUInt64 &&& Int64.toUInt64 63)).toInt64 = v) (k : z_Sm cx r M2 (pc + 1) ls (.long v :: st) M) : z_Sm cx r M2 pc ls (.int y :: .long x :: st) M := by
  intro l D cy ad p e s m args below meth c H locs ar F w h
  exact lv_lushr F.1 F.2.1 d hv (k l D cy ad p e s m args below meth c H locs ar F w h)
theorem z_lshl {cx : z_MC} {r : Option Value} {M M2 : z_Mem} {pc : Nat} {ls : List (Option Value)} {st : List Value} {x v : Int64} {y : Int32} (d : decode cx.1 pc = .ok (.lshl, 1)) (hv : x <<< (y.toInt64 &&& 63) = v) (k : z_Sm cx r M2 (pc + 1) ls (.long v :: st) M) : z_Sm cx r M2 pc ls (.int y :: .long x :: st) M := by
  intro l D cy ad p e s m args below meth c H locs ar F w h
  exact lv_lshl F.1 F.2.1 d hv (k l D cy ad p e s m args below meth c H locs ar F w h)
theorem z_i2l {cx : z_MC} {r : Option Value} {M M2 : z_Mem} {pc : Nat} {ls : List (Option Value)} {st : List Value} {x : Int32} {v : Int64} (d : decode cx.1 pc = .ok (.i2l, 1)) (hv : x.toInt64 = v) (k : z_Sm cx r M2 (pc + 1) ls (.long v :: st) M) : z_Sm cx r M2 pc ls (.int x :: st) M := by
  intro l D cy ad p e s m args below meth c H locs ar F w h
  exact lv_i2l F.1 F.2.1 d hv (k l D cy ad p e s m args below meth c H locs ar F w h)
theorem z_l2i {cx : z_MC} {r : Option Value} {M M2 : z_Mem} {pc : Nat} {ls : List (Option Value)} {st : List Value} {x : Int64} {v : Int32} (d : decode cx.1 pc = .ok (.l2i, 1)) (hv : x.toInt32 = v) (k : z_Sm cx r M2 (pc + 1) ls (.int v :: st) M) : z_Sm cx r M2 pc ls (.long x :: st) M := by
  intro l D cy ad p e s m args below meth c H locs ar F w h
  exact lv_l2i F.1 F.2.1 d hv (k l D cy ad p e s m args below meth c H locs ar F w h)
theorem z_lcmp {cx : z_MC} {r : Option Value} {M M2 : z_Mem} {pc : Nat} {ls : List (Option Value)} {st : List Value} {x y : Int64} (d : decode cx.1 pc = .ok (.lcmp, 1)) (k : z_Sm cx r M2 (pc + 1) ls (.int (lg_cmp x y) :: st) M) : z_Sm cx r M2 pc ls (.long y :: .long x :: st) M := by
  intro l D cy ad p e s m args below meth c H locs ar F w h
  exact W.lcmp F.1 F.2.1 d (k l D cy ad p e s m args below meth c H locs ar F w h)
theorem z_dup {cx : z_MC} {r : Option Value} {M M2 : z_Mem} {pc : Nat} {ls : List (Option Value)} {st : List Value} {va : Value} (d : decode cx.1 pc = .ok (.dup, 1)) (hva : va.category = 1) (k : z_Sm cx r M2 (pc + 1) ls (va :: va :: st) M) : z_Sm cx r M2 pc ls (va :: st) M := by
  intro l D cy ad p e s m args below meth c H locs ar F w h
  exact lv_dup F.1 F.2.1 d ((z_cat ad va).trans hva) (k l D cy ad p e s m args below meth c H locs ar F w h)
theorem z_pop {cx : z_MC} {r : Option Value} {M M2 : z_Mem} {pc : Nat} {ls : List (Option Value)} {st : List Value} {va : Value} (d : decode cx.1 pc = .ok (.pop, 1)) (hva : va.category = 1) (k : z_Sm cx r M2 (pc + 1) ls (st) M) : z_Sm cx r M2 pc ls (va :: st) M := by
  intro l D cy ad p e s m args below meth c H locs ar F w h
  exact lv_pop F.1 F.2.1 d ((z_cat ad va).trans hva) (k l D cy ad p e s m args below meth c H locs ar F w h)
theorem z_dup_x1 {cx : z_MC} {r : Option Value} {M M2 : z_Mem} {pc : Nat} {ls : List (Option Value)} {st : List Value} {va : Value} {vb : Value} (d : decode cx.1 pc = .ok (.dup_x1, 1)) (hva : va.category = 1) (hvb : vb.category = 1) (k : z_Sm cx r M2 (pc + 1) ls (va :: vb :: va :: st) M) : z_Sm cx r M2 pc ls (va :: vb :: st) M := by
  intro l D cy ad p e s m args below meth c H locs ar F w h
  exact lv_dup_x1 F.1 F.2.1 d ((z_cat ad va).trans hva) ((z_cat ad vb).trans hvb) (k l D cy ad p e s m args below meth c H locs ar F w h)
theorem z_dup2 {cx : z_MC} {r : Option Value} {M M2 : z_Mem} {pc : Nat} {ls : List (Option Value)} {st : List Value} {va : Value} {vb : Value} (d : decode cx.1 pc = .ok (.dup2, 1)) (hva : va.category = 1) (hvb : vb.category = 1) (k : z_Sm cx r M2 (pc + 1) ls (va :: vb :: va :: vb :: st) M) : z_Sm cx r M2 pc ls (va :: vb :: st) M := by
  intro l D cy ad p e s m args below meth c H locs ar F w h
  exact lv_dup2_11 F.1 F.2.1 d ((z_cat ad va).trans hva) ((z_cat ad vb).trans hvb) (k l D cy ad p e s m args below meth c H locs ar F w h)
theorem z_dup2L {cx : z_MC} {r : Option Value} {M M2 : z_Mem} {pc : Nat} {ls : List (Option Value)} {st : List Value} {va : Value} (d : decode cx.1 pc = .ok (.dup2, 1)) (hva : va.category = 2) (k : z_Sm cx r M2 (pc + 1) ls (va :: va :: st) M) : z_Sm cx r M2 pc ls (va :: st) M := by
  intro l D cy ad p e s m args below meth c H locs ar F w h
  exact lv_dup2_2 F.1 F.2.1 d ((z_cat ad va).trans hva) (k l D cy ad p e s m args below meth c H locs ar F w h)
theorem z_iload {cx : z_MC} {r : Option Value} {M M2 : z_Mem} {pc : Nat} {ls : List (Option Value)} {st : List Value} {i : Nat} {x : Int32} (d : decode cx.1 pc = .ok (.iload i, 2)) (hl : ls[i]? = some (some (.int x))) (k : z_Sm cx r M2 (pc + 2) ls (.int x :: st) M) : z_Sm cx r M2 pc ls st M := by
  intro l D cy ad p e s m args below meth c H locs ar F w h
  exact lv_iload F.1 F.2.1 d (h.2.2 _ _ hl) (k l D cy ad p e s m args below meth c H locs ar F w h)
theorem z_iload_n {cx : z_MC} {r : Option Value} {M M2 : z_Mem} {pc : Nat} {ls : List (Option Value)} {st : List Value} {i : Fin 4} {x : Int32} (d : decode cx.1 pc = .ok (.iload_n i, 1)) (hl : ls[(i : Nat)]? = some (some (.int x))) (k : z_Sm cx r M2 (pc + 1) ls (.int x :: st) M) : z_Sm cx r M2 pc ls st M := by
  intro l D cy ad p e s m args below meth c H locs ar F w h
  exact lv_iload_n F.1 F.2.1 d rfl (h.2.2 _ _ hl) (k l D cy ad p e s m args below meth c H locs ar F w h)
theorem z_lload {cx : z_MC} {r : Option Value} {M M2 : z_Mem} {pc : Nat} {ls : List (Option Value)} {st : List Value} {i : Nat} {x : Int64} (d : decode cx.1 pc = .ok (.lload i, 2)) (hl : ls[i]? = some (some (.long x))) (k : z_Sm cx r M2 (pc + 2) ls (.long x :: st) M) : z_Sm cx r M2 pc ls st M := by
  intro l D cy ad p e s m args below meth c H locs ar F w h
  exact lv_lload F.1 F.2.1 d (h.2.2 _ _ hl) (k l D cy ad p e s m args below meth c H locs ar F w h)
theorem z_lload_n {cx : z_MC} {r : Option Value} {M M2 : z_Mem} {pc : Nat} {ls : List (Option Value)} {st : List Value} {i : Fin 4} {x : Int64} (d : decode cx.1 pc = .ok (.lload_n i, 1)) (hl : ls[(i : Nat)]? = some (some (.long x))) (k : z_Sm cx r M2 (pc + 1) ls (.long x :: st) M) : z_Sm cx r M2 pc ls st M := by
  intro l D cy ad p e s m args below meth c H locs ar F w h
  exact lv_lload_n F.1 F.2.1 d rfl (h.2.2 _ _ hl) (k l D cy ad p e s m args below meth c H locs ar F w h)
theorem z_aload {cx : z_MC} {r : Option Value} {M M2 : z_Mem} {pc : Nat} {ls : List (Option Value)} {st : List Value} {i : Nat} {x : Nat} (d : decode cx.1 pc = .ok (.aload i, 2)) (hl : ls[i]? = some (some (.ref x))) (k : z_Sm cx r M2 (pc + 2) ls (.ref x :: st) M) : z_Sm cx r M2 pc ls st M := by
  intro l D cy ad p e s m args below meth c H locs ar F w h
  exact lv_aload F.1 F.2.1 d (h.2.2 _ _ hl) (k l D cy ad p e s m args below meth c H locs ar F w h)
theorem z_aload_n {cx : z_MC} {r : Option Value} {M M2 : z_Mem} {pc : Nat} {ls : List (Option Value)} {st : List Value} {i : Fin 4} {x : Nat} (d : decode cx.1 pc = .ok (.aload_n i, 1)) (hl : ls[(i : Nat)]? = some (some (.ref x))) (k : z_Sm cx r M2 (pc + 1) ls (.ref x :: st) M) : z_Sm cx r M2 pc ls st M := by
  intro l D cy ad p e s m args below meth c H locs ar F w h
  exact lv_aload_n F.1 F.2.1 d rfl (h.2.2 _ _ hl) (k l D cy ad p e s m args below meth c H locs ar F w h)
theorem z_istore {cx : z_MC} {r : Option Value} {M M2 : z_Mem} {pc : Nat} {ls : List (Option Value)} {st : List Value} {i : Nat} {x : Int32} (d : decode cx.1 pc = .ok (.istore i, 2)) (hi : z_okst i ls = true) (hn : i < cx.2.2.1) (k : z_Sm cx r M2 (pc + 2) (ls.set i (some (.int x))) st M) : z_Sm cx r M2 pc ls (.int x :: st) M := by
  intro l D cy ad p e s m args below meth c H locs ar F w h
  exact lv_istore F.1 F.2.1 d (z_lvh h) hn rfl (fun ar2 h2 => k l D cy ad p e s m args below meth c H locs ar2 F w (z_lv1 (v := .int x) hi h2))
theorem z_istore_n {cx : z_MC} {r : Option Value} {M M2 : z_Mem} {pc : Nat} {ls : List (Option Value)} {st : List Value} {i : Fin 4} {x : Int32} (d : decode cx.1 pc = .ok (.istore_n i, 1)) (hi : z_okst (i : Nat) ls = true) (hn : (i : Nat) < cx.2.2.1) (k : z_Sm cx r M2 (pc + 1) (ls.set (i : Nat) (some (.int x))) st M) : z_Sm cx r M2 pc ls (.int x :: st) M := by
  intro l D cy ad p e s m args below meth c H locs ar F w h
  exact lv_istore_n F.1 F.2.1 d rfl (z_lvh h) hn rfl (fun ar2 h2 => k l D cy ad p e s m args below meth c H locs ar2 F w (z_lv1 (v := .int x) hi h2))
theorem z_astore {cx : z_MC} {r : Option Value} {M M2 : z_Mem} {pc : Nat} {ls : List (Option Value)} {st : List Value} {i : Nat} {x : Nat} (d : decode cx.1 pc = .ok (.astore i, 2)) (hi : z_okst i ls = true) (hn : i < cx.2.2.1) (k : z_Sm cx r M2 (pc + 2) (ls.set i (some (.ref x))) st M) : z_Sm cx r M2 pc ls (.ref x :: st) M := by
  intro l D cy ad p e s m args below meth c H locs ar F w h
  exact lv_astore F.1 F.2.1 d (z_lvh h) hn rfl (fun ar2 h2 => k l D cy ad p e s m args below meth c H locs ar2 F w (z_lv1 (v := .ref x) hi h2))
theorem z_astore_n {cx : z_MC} {r : Option Value} {M M2 : z_Mem} {pc : Nat} {ls : List (Option Value)} {st : List Value} {i : Fin 4} {x : Nat} (d : decode cx.1 pc = .ok (.astore_n i, 1)) (hi : z_okst (i : Nat) ls = true) (hn : (i : Nat) < cx.2.2.1) (k : z_Sm cx r M2 (pc + 1) (ls.set (i : Nat) (some (.ref x))) st M) : z_Sm cx r M2 pc ls (.ref x :: st) M := by
  intro l D cy ad p e s m args below meth c H locs ar F w h
  exact lv_astore_n F.1 F.2.1 d rfl (z_lvh h) hn rfl (fun ar2 h2 => k l D cy ad p e s m args below meth c H locs ar2 F w (z_lv1 (v := .ref x) hi h2))
theorem z_lstore {cx : z_MC} {r : Option Value} {M M2 : z_Mem} {pc : Nat} {ls : List (Option Value)} {st : List Value} {i : Nat} {x : Int64} (d : decode cx.1 pc = .ok (.lstore i, 2)) (hi : z_okst i ls = true) (hn : i + 1 < cx.2.2.1) (k : z_Sm cx r M2 (pc + 2) ((ls.set i (some (.long x))).set (i + 1) none) st M) : z_Sm cx r M2 pc ls (.long x :: st) M := by
  intro l D cy ad p e s m args below meth c H locs ar F w h
  exact lv_lstore F.1 F.2.1 d (z_lvh h) hn rfl (fun ar2 h2 => k l D cy ad p e s m args below meth c H locs ar2 F w (z_lv2 (v := .long x) hi h2))
theorem z_lstore_n {cx : z_MC} {r : Option Value} {M M2 : z_Mem} {pc : Nat} {ls : List (Option Value)} {st : List Value} {i : Fin 4} {x : Int64} (d : decode cx.1 pc = .ok (.lstore_n i, 1)) (hi : z_okst (i : Nat) ls = true) (hn : (i : Nat) + 1 < cx.2.2.1) (k : z_Sm cx r M2 (pc + 1) ((ls.set (i : Nat) (some (.long x))).set ((i : Nat) + 1) none) st M) : z_Sm cx r M2 pc ls (.long x :: st) M := by
  intro l D cy ad p e s m args below meth c H locs ar F w h
  exact lv_lstore_n F.1 F.2.1 d rfl (z_lvh h) hn rfl (fun ar2 h2 => k l D cy ad p e s m args below meth c H locs ar2 F w (z_lv2 (v := .long x) hi h2))
theorem z_icmp_eq {cx : z_MC} {r : Option Value} {M M2 : z_Mem} {pc : Nat} {ls : List (Option Value)} {st : List Value} {x y : Int32} {off : Int} {tgt : Nat} (d : decode cx.1 pc = .ok (.if_icmp .eq off, 3)) (ht : (pc : Int) + off = (tgt : Int)) (kt : x = y → z_Sm cx r M2 tgt ls st M) (kf : ¬ x = y → z_Sm cx r M2 (pc + 3) ls st M) : z_Sm cx r M2 pc ls (.int y :: .int x :: st) M := by
  intro l D cy ad p e s m args below meth c H locs ar F w h
  exact lv_icmp_eq F.1 F.2.1 d ht (fun q => kt q l D cy ad p e s m args below meth c H locs ar F w h) (fun q => kf q l D cy ad p e s m args below meth c H locs ar F w h)
theorem z_if_eq {cx : z_MC} {r : Option Value} {M M2 : z_Mem} {pc : Nat} {ls : List (Option Value)} {st : List Value} {x : Int32} {off : Int} {tgt : Nat} (d : decode cx.1 pc = .ok (.ifCond .eq off, 3)) (ht : (pc : Int) + off = (tgt : Int)) (kt : x = 0 → z_Sm cx r M2 tgt ls st M) (kf : ¬ x = 0 → z_Sm cx r M2 (pc + 3) ls st M) : z_Sm cx r M2 pc ls (.int x :: st) M := by
  intro l D cy ad p e s m args below meth c H locs ar F w h
  exact lv_if_eq F.1 F.2.1 d ht (fun q => kt q l D cy ad p e s m args below meth c H locs ar F w h) (fun q => kf q l D cy ad p e s m args below meth c H locs ar F w h)
theorem z_icmp_ne {cx : z_MC} {r : Option Value} {M M2 : z_Mem} {pc : Nat} {ls : List (Option Value)} {st : List Value} {x y : Int32} {off : Int} {tgt : Nat} (d : decode cx.1 pc = .ok (.if_icmp .ne off, 3)) (ht : (pc : Int) + off = (tgt : Int)) (kt : ¬ x = y → z_Sm cx r M2 tgt ls st M) (kf : x = y → z_Sm cx r M2 (pc + 3) ls st M) : z_Sm cx r M2 pc ls (.int y :: .int x :: st) M := by
  intro l D cy ad p e s m args below meth c H locs ar F w h
  exact lv_icmp_ne F.1 F.2.1 d ht (fun q => kt q l D cy ad p e s m args below meth c H locs ar F w h) (fun q => kf q l D cy ad p e s m args below meth c H locs ar F w h)
theorem z_if_ne {cx : z_MC} {r : Option Value} {M M2 : z_Mem} {pc : Nat} {ls : List (Option Value)} {st : List Value} {x : Int32} {off : Int} {tgt : Nat} (d : decode cx.1 pc = .ok (.ifCond .ne off, 3)) (ht : (pc : Int) + off = (tgt : Int)) (kt : ¬ x = 0 → z_Sm cx r M2 tgt ls st M) (kf : x = 0 → z_Sm cx r M2 (pc + 3) ls st M) : z_Sm cx r M2 pc ls (.int x :: st) M := by
  intro l D cy ad p e s m args below meth c H locs ar F w h
  exact lv_if_ne F.1 F.2.1 d ht (fun q => kt q l D cy ad p e s m args below meth c H locs ar F w h) (fun q => kf q l D cy ad p e s m args below meth c H locs ar F w h)
theorem z_icmp_lt {cx : z_MC} {r : Option Value} {M M2 : z_Mem} {pc : Nat} {ls : List (Option Value)} {st : List Value} {x y : Int32} {off : Int} {tgt : Nat} (d : decode cx.1 pc = .ok (.if_icmp .lt off, 3)) (ht : (pc : Int) + off = (tgt : Int)) (kt : x < y → z_Sm cx r M2 tgt ls st M) (kf : ¬ x < y → z_Sm cx r M2 (pc + 3) ls st M) : z_Sm cx r M2 pc ls (.int y :: .int x :: st) M := by
  intro l D cy ad p e s m args below meth c H locs ar F w h
  exact lv_icmp_lt F.1 F.2.1 d ht (fun q => kt q l D cy ad p e s m args below meth c H locs ar F w h) (fun q => kf q l D cy ad p e s m args below meth c H locs ar F w h)
theorem z_if_lt {cx : z_MC} {r : Option Value} {M M2 : z_Mem} {pc : Nat} {ls : List (Option Value)} {st : List Value} {x : Int32} {off : Int} {tgt : Nat} (d : decode cx.1 pc = .ok (.ifCond .lt off, 3)) (ht : (pc : Int) + off = (tgt : Int)) (kt : x < 0 → z_Sm cx r M2 tgt ls st M) (kf : ¬ x < 0 → z_Sm cx r M2 (pc + 3) ls st M) : z_Sm cx r M2 pc ls (.int x :: st) M := by
  intro l D cy ad p e s m args below meth c H locs ar F w h
  exact lv_if_lt F.1 F.2.1 d ht (fun q => kt q l D cy ad p e s m args below meth c H locs ar F w h) (fun q => kf q l D cy ad p e s m args below meth c H locs ar F w h)
theorem z_icmp_ge {cx : z_MC} {r : Option Value} {M M2 : z_Mem} {pc : Nat} {ls : List (Option Value)} {st : List Value} {x y : Int32} {off : Int} {tgt : Nat} (d : decode cx.1 pc = .ok (.if_icmp .ge off, 3)) (ht : (pc : Int) + off = (tgt : Int)) (kt : y ≤ x → z_Sm cx r M2 tgt ls st M) (kf : ¬ y ≤ x → z_Sm cx r M2 (pc + 3) ls st M) : z_Sm cx r M2 pc ls (.int y :: .int x :: st) M := by
  intro l D cy ad p e s m args below meth c H locs ar F w h
  exact lv_icmp_ge F.1 F.2.1 d ht (fun q => kt q l D cy ad p e s m args below meth c H locs ar F w h) (fun q => kf q l D cy ad p e s m args below meth c H locs ar F w h)
theorem z_if_ge {cx : z_MC} {r : Option Value} {M M2 : z_Mem} {pc : Nat} {ls : List (Option Value)} {st : List Value} {x : Int32} {off : Int} {tgt : Nat} (d : decode cx.1 pc = .ok (.ifCond .ge off, 3)) (ht : (pc : Int) + off = (tgt : Int)) (kt : 0 ≤ x → z_Sm cx r M2 tgt ls st M) (kf : ¬ 0 ≤ x → z_Sm cx r M2 (pc + 3) ls st M) : z_Sm cx r M2 pc ls (.int x :: st) M := by
  intro l D cy ad p e s m args below meth c H locs ar F w h
  exact lv_if_ge F.1 F.2.1 d ht (fun q => kt q l D cy ad p e s m args below meth c H locs ar F w h) (fun q => kf q l D cy ad p e s m args below meth c H locs ar F w h)
theorem z_icmp_gt {cx : z_MC} {r : Option Value} {M M2 : z_Mem} {pc : Nat} {ls : List (Option Value)} {st : List Value} {x y : Int32} {off : Int} {tgt : Nat} (d : decode cx.1 pc = .ok (.if_icmp .gt off, 3)) (ht : (pc : Int) + off = (tgt : Int)) (kt : y < x → z_Sm cx r M2 tgt ls st M) (kf : ¬ y < x → z_Sm cx r M2 (pc + 3) ls st M) : z_Sm cx r M2 pc ls (.int y :: .int x :: st) M := by
  intro l D cy ad p e s m args below meth c H locs ar F w h
  exact lv_icmp_gt F.1 F.2.1 d ht (fun q => kt q l D cy ad p e s m args below meth c H locs ar F w h) (fun q => kf q l D cy ad p e s m args below meth c H locs ar F w h)
theorem z_if_gt {cx : z_MC} {r : Option Value} {M M2 : z_Mem} {pc : Nat} {ls : List (Option Value)} {st : List Value} {x : Int32} {off : Int} {tgt : Nat} (d : decode cx.1 pc = .ok (.ifCond .gt off, 3)) (ht : (pc : Int) + off = (tgt : Int)) (kt : 0 < x → z_Sm cx r M2 tgt ls st M) (kf : ¬ 0 < x → z_Sm cx r M2 (pc + 3) ls st M) : z_Sm cx r M2 pc ls (.int x :: st) M := by
  intro l D cy ad p e s m args below meth c H locs ar F w h
  exact lv_if_gt F.1 F.2.1 d ht (fun q => kt q l D cy ad p e s m args below meth c H locs ar F w h) (fun q => kf q l D cy ad p e s m args below meth c H locs ar F w h)
theorem z_icmp_le {cx : z_MC} {r : Option Value} {M M2 : z_Mem} {pc : Nat} {ls : List (Option Value)} {st : List Value} {x y : Int32} {off : Int} {tgt : Nat} (d : decode cx.1 pc = .ok (.if_icmp .le off, 3)) (ht : (pc : Int) + off = (tgt : Int)) (kt : x ≤ y → z_Sm cx r M2 tgt ls st M) (kf : ¬ x ≤ y → z_Sm cx r M2 (pc + 3) ls st M) : z_Sm cx r M2 pc ls (.int y :: .int x :: st) M := by
  intro l D cy ad p e s m args below meth c H locs ar F w h
  exact lv_icmp_le F.1 F.2.1 d ht (fun q => kt q l D cy ad p e s m args below meth c H locs ar F w h) (fun q => kf q l D cy ad p e s m args below meth c H locs ar F w h)
theorem z_if_le {cx : z_MC} {r : Option Value} {M M2 : z_Mem} {pc : Nat} {ls : List (Option Value)} {st : List Value} {x : Int32} {off : Int} {tgt : Nat} (d : decode cx.1 pc = .ok (.ifCond .le off, 3)) (ht : (pc : Int) + off = (tgt : Int)) (kt : x ≤ 0 → z_Sm cx r M2 tgt ls st M) (kf : ¬ x ≤ 0 → z_Sm cx r M2 (pc + 3) ls st M) : z_Sm cx r M2 pc ls (.int x :: st) M := by
  intro l D cy ad p e s m args below meth c H locs ar F w h
  exact lv_if_le F.1 F.2.1 d ht (fun q => kt q l D cy ad p e s m args below meth c H locs ar F w h) (fun q => kf q l D cy ad p e s m args below meth c H locs ar F w h)
-- goto, iinc, constants of the pool, switches
theorem z_goto {cx : z_MC} {r : Option Value} {M M2 : z_Mem} {pc : Nat} {ls : List (Option Value)} {st : List Value} {off : Int} {tgt : Nat} (d : decode cx.1 pc = .ok (.goto off, 3)) (ht : (pc : Int) + off = (tgt : Int)) (k : z_Sm cx r M2 tgt ls st M) : z_Sm cx r M2 pc ls st M := by
  intro l D cy ad p e s m args below meth c H locs ar F w h
  exact lv_goto F.1 F.2.1 d ht (k l D cy ad p e s m args below meth c H locs ar F w h)
theorem z_iinc {cx : z_MC} {r : Option Value} {M M2 : z_Mem} {pc : Nat} {ls : List (Option Value)} {st : List Value} {i : Nat} {n : Int} {x v : Int32} (d : decode cx.1 pc = .ok (.iinc i n, 3)) (hl : ls[i]? = some (some (.int x))) (hv : x + Int32.ofInt n = v) (hi : z_okst i ls = true) (hn : i < cx.2.2.1) (k : z_Sm cx r M2 (pc + 3) (ls.set i (some (.int v))) st M) : z_Sm cx r M2 pc ls st M := by
  intro l D cy ad p e s m args below meth c H locs ar F w h
  have hh : lv_has ar cx.2.2.1 ((i, .int x) :: z_lvl ad ls) := by
    refine ⟨h.1, h.2.1, fun q hq => ?_⟩
    rcases List.mem_cons.mp hq with rfl | hq
    · exact h.2.2 _ _ hl
    · exact (z_lvh h).2.2 q hq
  refine lv_iinc (k := 0) F.1 F.2.1 d hh rfl hv hn rfl (fun ar2 h2 => k l D cy ad p e s m args below meth c H locs ar2 F w (z_lv1 (v := .int v) hi ⟨h2.1, h2.2.1, fun q hq => h2.2.2 q ?_⟩))
  rcases List.mem_cons.mp hq with rfl | hq
  · exact List.mem_cons_self
  · exact List.mem_cons_of_mem _ (List.mem_filter.mpr ⟨List.mem_cons_of_mem _ (List.mem_filter.mp hq).1, (List.mem_filter.mp hq).2⟩)
theorem z_ldc2 {cx : z_MC} {r : Option Value} {M M2 : z_Mem} {pc : Nat} {ls : List (Option Value)} {st : List Value} {index : Nat} {v : Int64} (hc : Jvm.Cond.constantLong cx.2.1 index v ∈ z_tb) (d : decode cx.1 pc = .ok (.ldc2_w index, 3)) (k : z_Sm cx r M2 (pc + 3) ls (.long v :: st) M) : z_Sm cx r M2 pc ls st M := by
  intro l D cy ad p e s m args below meth c H locs ar F w h
  exact lv_ldc2 F.1 F.2.1 F.2.2.2.2.1 (F.2.2.2.2.2.1 _ (List.mem_cons_of_mem _ hc)) d (k l D cy ad p e s m args below meth c H locs ar F w h)
theorem z_ldcw {cx : z_MC} {r : Option Value} {M M2 : z_Mem} {pc : Nat} {ls : List (Option Value)} {st : List Value} {index : Nat} {v : Int32} (hc : Jvm.Cond.constant cx.2.1 index v ∈ z_tb) (d : decode cx.1 pc = .ok (.ldc_w index, 3)) (k : z_Sm cx r M2 (pc + 3) ls (.int v :: st) M) : z_Sm cx r M2 pc ls st M := by
  intro l D cy ad p e s m args below meth c H locs ar F w h
  exact lv_ldcw F.1 F.2.1 F.2.2.2.2.1 (F.2.2.2.2.2.1 _ (List.mem_cons_of_mem _ hc)) d (k l D cy ad p e s m args below meth c H locs ar F w h)
theorem z_tswIn {cx : z_MC} {r : Option Value} {M M2 : z_Mem} {pc : Nat} {ls : List (Option Value)} {st : List Value} {dflt lo hi off : Int} {offs : Array Int} {len tgt : Nat} {x : Int32} (d : decode cx.1 pc = .ok (.tableswitch dflt lo hi offs, len)) (h1 : ¬ x.toInt < lo) (h2 : ¬ hi < x.toInt) (ho : offs[(x.toInt - lo).toNat]? = some off) (ht : (pc : Int) + off = (tgt : Int)) (k : z_Sm cx r M2 tgt ls st M) : z_Sm cx r M2 pc ls (.int x :: st) M := by
  intro l D cy ad p e s m args below meth c H locs ar F w h
  exact lv_tableIn F.1 F.2.1 d h1 h2 ho ht (k l D cy ad p e s m args below meth c H locs ar F w h)
theorem z_tswOut {cx : z_MC} {r : Option Value} {M M2 : z_Mem} {pc : Nat} {ls : List (Option Value)} {st : List Value} {dflt lo hi : Int} {offs : Array Int} {len tgt : Nat} {x : Int32} (d : decode cx.1 pc = .ok (.tableswitch dflt lo hi offs, len)) (h1 : x.toInt < lo ∨ hi < x.toInt) (ht : (pc : Int) + dflt = (tgt : Int)) (k : z_Sm cx r M2 tgt ls st M) : z_Sm cx r M2 pc ls (.int x :: st) M := by
  intro l D cy ad p e s m args below meth c H locs ar F w h
  exact lv_tableOut F.1 F.2.1 d h1 ht (k l D cy ad p e s m args below meth c H locs ar F w h)
-- what a frame needn't know
theorem z_drop {cx : z_MC} {r : Option Value} {M M2 : z_Mem} {pc : Nat} {ls : List (Option Value)} {st : List Value} (i : Nat) (k : z_Sm cx r M2 pc (ls.set i none) st M) : z_Sm cx r M2 pc ls st M := by
  intro l D cy ad p e s m args below meth c H locs ar F w h
  refine k l D cy ad p e s m args below meth c H locs ar F w ⟨h.1, h.2.1, fun j v hj => h.2.2 j v ?_⟩
  by_cases e : i = j
  · subst e
    have hlt := (List.getElem?_eq_some_iff.mp hj).1
    rw [List.length_set] at hlt
    rw [List.getElem?_set_self hlt] at hj
    cases hj
  · rwa [List.getElem?_set_ne e] at hj
theorem z_eq {cx : z_MC} {r : Option Value} {M N M2 : z_Mem} {pc : Nat} {ls ls2 : List (Option Value)} {st st2 : List Value} (h1 : ls = ls2) (h2 : st = st2) (h3 : M = N) (k : z_Sm cx r M2 pc ls2 st2 N) : z_Sm cx r M2 pc ls st M := by
  subst h1; subst h2; subst h3; exact k
-- fields
def z_FL (own : String) (idx ci k : Nat) : Prop := ∃ C T N, vwCl[ci]? = some (C, T, N) ∧ k < N ∧ Cond.fieldLink own idx (T k).1 (T k).2.1 (T k).2.2.1 ∈ z_tb
def z_FP (ci k : Nat) (dsc : String) : Bool := match vwCl[ci]? with
  | some q => (q.2.1 k).2.2.2 == false && (q.2.1 k).2.2.1 == dsc
  | none => false
theorem z_cls {ci : Nat} {C : String} {T : u_T} {N : Nat} (hc : vwCl[ci]? = some (C, T, N)) : (∀ w ∈ u_ws C T N, w ∈ z_tb) ∧ ∃ ty0 : Nat → FieldType, (∀ k, k < N → parseFieldDescriptor (T k).2.2.1 = some (ty0 k)) ∧ ∀ a, a < N → ∀ b, b < N → a ≠ b → (T a).2.1 ≠ (T b).2.1 := by
  match ci, hc with
  | 0, hc => cases hc; exact ⟨z_u0, tyX0, tyX0_ok, nmX0⟩
  | 1, hc => cases hc; exact ⟨z_u1, tyX1, tyX1_ok, nmX1⟩
  | 2, hc => cases hc; exact ⟨z_u2, tyX2, tyX2_ok, nmX2⟩
  | 3, hc => cases hc; exact ⟨z_u3, tyX3, tyX3_ok, nmX3⟩
  | 4, hc => cases hc; exact ⟨z_u4, tyX4, tyX4_ok, nmX4⟩
  | 5, hc => cases hc; exact ⟨z_u5, tyX5, tyX5_ok, nmX5⟩
  | 6, hc => cases hc; exact ⟨z_u6, tyX6, tyX6_ok, nmX6⟩
  | 7, hc => cases hc; exact ⟨z_u7, tyX7, tyX7_ok, nmX7⟩
  | k + 8, hc => simp at hc
theorem z_getf {cx : z_MC} {r : Option Value} {M M2 : z_Mem} {pc : Nat} {ls : List (Option Value)} {st : List Value} {idx ci k id f : Nat} {fks : List Nat} (hf : z_FL cx.2.1 idx ci k) (hs : z_shp[id]? = some (.inr (.inl (ci, fks)))) (hk : fks[k]? = some f) (d : decode cx.1 pc = .ok (.getfield idx, 3)) (kk : z_Sm cx r M2 (pc + 3) ls (z_pv M id k f :: st) M) : z_Sm cx r M2 pc ls (.ref id :: st) M := by
  intro l D cy ad p e s m args below meth c H locs ar F w h
  obtain ⟨C, T, N, hc, hkN, hlk⟩ := hf
  obtain ⟨hui, -⟩ := z_cls hc
  have hget := z_wd_get (cy := cy) (ad := ad) (M := M) hs
  have hv : (z_fs ad M id 0 fks)[k]? = some (z_fv ad M id k f) := by
    have := z_fs_get (ad := ad) (M := M) (id := id) fks 0 k f hk
    rwa [Nat.zero_add] at this
  have K := kk l D cy ad p e s m args below meth c H locs ar F w h
  rw [List.map_cons, z_pv_mv] at K
  exact va_get F.1 F.2.1 F.2.2.2.2.2.1 (fun w9 h9 => List.mem_cons_of_mem _ (hui w9 h9)) F.2.2.2.2.1 F.2.2.2.2.2.2.2.1 w.1 id hget hc k hkN (F.2.2.2.2.2.1 _ (List.mem_cons_of_mem _ hlk)) (fun _ h9 => h9) hv d K
theorem z_getI {cx : z_MC} {r : Option Value} {M M2 : z_Mem} {pc : Nat} {ls : List (Option Value)} {st : List Value} {idx ci k id : Nat} {fks : List Nat} (hf : z_FL cx.2.1 idx ci k) (hs : z_shp[id]? = some (.inr (.inl (ci, fks)))) (hk : fks[k]? = some 0) (d : decode cx.1 pc = .ok (.getfield idx, 3)) (kk : z_Sm cx r M2 (pc + 3) ls (.int (M.1 id k) :: st) M) : z_Sm cx r M2 pc ls (.ref id :: st) M := z_getf hf hs hk d kk
theorem z_getL {cx : z_MC} {r : Option Value} {M M2 : z_Mem} {pc : Nat} {ls : List (Option Value)} {st : List Value} {idx ci k id : Nat} {fks : List Nat} (hf : z_FL cx.2.1 idx ci k) (hs : z_shp[id]? = some (.inr (.inl (ci, fks)))) (hk : fks[k]? = some 1) (d : decode cx.1 pc = .ok (.getfield idx, 3)) (kk : z_Sm cx r M2 (pc + 3) ls (.long (M.2 id k) :: st) M) : z_Sm cx r M2 pc ls (.ref id :: st) M := z_getf hf hs hk d kk
theorem z_getR {cx : z_MC} {r : Option Value} {M M2 : z_Mem} {pc : Nat} {ls : List (Option Value)} {st : List Value} {idx ci k id : Nat} {fks : List Nat} (j : Nat) (hf : z_FL cx.2.1 idx ci k) (hs : z_shp[id]? = some (.inr (.inl (ci, fks)))) (hk : fks[k]? = some (j + 2)) (d : decode cx.1 pc = .ok (.getfield idx, 3)) (kk : z_Sm cx r M2 (pc + 3) ls (.ref j :: st) M) : z_Sm cx r M2 pc ls (.ref id :: st) M := z_getf hf hs hk d kk
theorem z_putI {cx : z_MC} {r : Option Value} {M M2 : z_Mem} {pc : Nat} {ls : List (Option Value)} {st : List Value} {idx ci k id : Nat} {fks : List Nat} {v : Int32} (hf : z_FL cx.2.1 idx ci k) (hp : z_FP ci k "I" = true) (hs : z_shp[id]? = some (.inr (.inl (ci, fks)))) (hk : fks[k]? = some 0) (d : decode cx.1 pc = .ok (.putfield idx, 3)) (kk : z_Sm cx r M2 (pc + 3) ls st (z_set M id k v)) : z_Sm cx r M2 pc ls (.int v :: .ref id :: st) M := by
  intro l D cy ad p e s m args below meth c H locs ar F w h
  obtain ⟨C, T, N, hc, hkN, hlk⟩ := hf
  obtain ⟨hui, ty0, hty, hnm⟩ := z_cls hc
  have hget := z_wd_get (cy := cy) (ad := ad) (M := M) hs
  simp only [z_FP, hc, Bool.and_eq_true, beq_iff_eq] at hp
  have hset : (z_wd cy ad M).set id (ad id, .inr (ci, (z_fs ad M id 0 fks).set k (.int v))) = z_wd cy ad (z_set M id k v) := by
    have e1 : (z_fs ad M id 0 fks).set k (.int v) = z_fs ad (z_set M id k v) id 0 fks := z_fs_set (f := 0) fks 0 k hk (by rw [Nat.zero_add]; simp [z_fv, z_set, z_row, upd]) (fun b hb => by simp [z_set, z_row, upd, show b ≠ k by omega]) (fun _ _ => rfl)
    rw [e1]
    exact z_wd_set (cy := cy) (ad := ad) (M := M) (N := z_set M id k v) (fun a ha => ⟨by simp [z_set, z_row, ha], rfl⟩) hs
  refine va_put (ty := .int) F.1 F.2.1 F.2.2.2.2.2.1 (fun w9 h9 => List.mem_cons_of_mem _ (hui w9 h9)) ty0 hty hnm F.2.2.2.2.1 F.2.2.2.2.2.2.2.1 w.1 w.2.1 w.2.2 id hget hc k hkN (F.2.2.2.2.2.1 _ (List.mem_cons_of_mem _ hlk)) (fun _ h9 => h9) hp.1 (by rw [hp.2]; decide +kernel) rfl rfl (by rw [z_fs_len]; exact (List.getElem?_eq_some_iff.mp hk).1) d (fun H1 locs1 q1 q2 q3 => ?_)
  replace q1 := hset ▸ (show va_P D vwCl ((z_wd cy ad M).set id (ad id, .inr (ci, (z_fs ad M id 0 fks).set k (.int v)))) H1 from q1)
  replace q2 := hset ▸ (show va_D (z_A ad) ((z_wd cy ad M).set id (ad id, .inr (ci, (z_fs ad M id 0 fks).set k (.int v)))) from q2)
  exact kk l D cy ad p e s m args below meth c H1 locs1 ar F ⟨q1, q2, q3⟩ h
theorem z_putL {cx : z_MC} {r : Option Value} {M M2 : z_Mem} {pc : Nat} {ls : List (Option Value)} {st : List Value} {idx ci k id : Nat} {fks : List Nat} {v : Int64} (hf : z_FL cx.2.1 idx ci k) (hp : z_FP ci k "J" = true) (hs : z_shp[id]? = some (.inr (.inl (ci, fks)))) (hk : fks[k]? = some 1) (d : decode cx.1 pc = .ok (.putfield idx, 3)) (kk : z_Sm cx r M2 (pc + 3) ls st (z_setL M id k v)) : z_Sm cx r M2 pc ls (.long v :: .ref id :: st) M := by
  intro l D cy ad p e s m args below meth c H locs ar F w h
  obtain ⟨C, T, N, hc, hkN, hlk⟩ := hf
  obtain ⟨hui, ty0, hty, hnm⟩ := z_cls hc
  have hget := z_wd_get (cy := cy) (ad := ad) (M := M) hs
  simp only [z_FP, hc, Bool.and_eq_true, beq_iff_eq] at hp
  have hset : (z_wd cy ad M).set id (ad id, .inr (ci, (z_fs ad M id 0 fks).set k (.long v))) = z_wd cy ad (z_setL M id k v) := by
    have e1 : (z_fs ad M id 0 fks).set k (.long v) = z_fs ad (z_setL M id k v) id 0 fks := z_fs_set (f := 1) fks 0 k hk (by rw [Nat.zero_add]; simp [z_fv, z_setL]) (fun _ _ => rfl) (fun b hb => by simp [z_setL, show b ≠ k by omega])
    rw [e1]
    exact z_wd_set (cy := cy) (ad := ad) (M := M) (N := z_setL M id k v) (fun a ha => ⟨rfl, by simp [z_setL, ha]⟩) hs
  refine va_put (ty := .long) F.1 F.2.1 F.2.2.2.2.2.1 (fun w9 h9 => List.mem_cons_of_mem _ (hui w9 h9)) ty0 hty hnm F.2.2.2.2.1 F.2.2.2.2.2.2.2.1 w.1 w.2.1 w.2.2 id hget hc k hkN (F.2.2.2.2.2.1 _ (List.mem_cons_of_mem _ hlk)) (fun _ h9 => h9) hp.1 (by rw [hp.2]; decide +kernel) rfl rfl (by rw [z_fs_len]; exact (List.getElem?_eq_some_iff.mp hk).1) d (fun H1 locs1 q1 q2 q3 => ?_)
  replace q1 := hset ▸ (show va_P D vwCl ((z_wd cy ad M).set id (ad id, .inr (ci, (z_fs ad M id 0 fks).set k (.long v)))) H1 from q1)
  replace q2 := hset ▸ (show va_D (z_A ad) ((z_wd cy ad M).set id (ad id, .inr (ci, (z_fs ad M id 0 fks).set k (.long v)))) from q2)
  exact kk l D cy ad p e s m args below meth c H1 locs1 ar F ⟨q1, q2, q3⟩ h
-- arrays
theorem z_iald {cx : z_MC} {r : Option Value} {M M2 : z_Mem} {pc : Nat} {ls : List (Option Value)} {st : List Value} {id n : Nat} {i : Int32} (j : Nat) (hs : z_shp[id]? = some (.inl (0, n))) (hi : i = nI j ∧ j < n ∧ n < 2 ^ 31) (d : decode cx.1 pc = .ok (.iaload, 1)) (kk : z_Sm cx r M2 (pc + 1) ls (.int (M.1 id j) :: st) M) : z_Sm cx r M2 pc ls (.int i :: .ref id :: st) M := by
  intro l D cy ad p e s m args below meth c H locs ar F w h
  obtain ⟨rfl, hj, hn⟩ := hi
  have hget := z_wd_get (cy := cy) (ad := ad) (M := M) hs
  have K := kk l D cy ad p e s m args below meth c H locs ar F w h
  refine va_iald (n := n) (f := M.1 id) F.1 F.2.1 F.2.2.2.2.2.2.2.1 w.1 id 0 hget rfl (vp_in_nI hj hn) d ?_
  rw [nI_clamp (by omega)]
  exact K
theorem z_iast {cx : z_MC} {r : Option Value} {M M2 : z_Mem} {pc : Nat} {ls : List (Option Value)} {st : List Value} {id n : Nat} {i x : Int32} (j : Nat) (hs : z_shp[id]? = some (.inl (0, n))) (hi : i = nI j ∧ j < n ∧ n < 2 ^ 31) (d : decode cx.1 pc = .ok (.iastore, 1)) (kk : z_Sm cx r M2 (pc + 1) ls st (z_set M id j x)) : z_Sm cx r M2 pc ls (.int x :: .int i :: .ref id :: st) M := by
  intro l D cy ad p e s m args below meth c H locs ar F w h
  obtain ⟨rfl, hj, hn⟩ := hi
  have hget := z_wd_get (cy := cy) (ad := ad) (M := M) hs
  have hset : (z_wd cy ad M).set id (ad id, .inl (cy 0, n, .inl (upd (M.1 id) j x))) = z_wd cy ad (z_set M id j x) := by
    have := z_wd_set (cy := cy) (ad := ad) (M := M) (N := z_set M id j x) (fun a ha => ⟨by simp [z_set, z_row, ha], rfl⟩) hs
    rw [z_ent, z_set, z_row_1] at this
    exact this
  refine va_iast (n := n) (f := M.1 id) F.1 F.2.1 F.2.2.2.2.2.2.2.1 w.1 w.2.1 w.2.2 id 0 hget rfl (vp_in_nI hj hn) d (fun H1 locs1 q1 q2 q3 => ?_)
  rw [nI_clamp (by omega), hset] at q1 q2
  exact kk l D cy ad p e s m args below meth c H1 locs1 ar F ⟨q1, q2, q3⟩ h
theorem z_zald {cx : z_MC} {r : Option Value} {M M2 : z_Mem} {pc : Nat} {ls : List (Option Value)} {st : List Value} {id n : Nat} {i : Int32} (j : Nat) (hs : z_shp[id]? = some (.inl (1, n))) (hi : i = nI j ∧ j < n ∧ n < 2 ^ 31) (d : decode cx.1 pc = .ok (.baload, 1)) (kk : z_Sm cx r M2 (pc + 1) ls (.int (M.1 id j) :: st) M) : z_Sm cx r M2 pc ls (.int i :: .ref id :: st) M := by
  intro l D cy ad p e s m args below meth c H locs ar F w h
  obtain ⟨rfl, hj, hn⟩ := hi
  have hget := z_wd_get (cy := cy) (ad := ad) (M := M) hs
  have K := kk l D cy ad p e s m args below meth c H locs ar F w h
  refine va_zald (n := n) (f := M.1 id) F.1 F.2.1 F.2.2.2.2.2.2.2.1 w.1 id 1 hget rfl (vp_in_nI hj hn) d ?_
  rw [nI_clamp (by omega)]
  exact K
theorem z_zast {cx : z_MC} {r : Option Value} {M M2 : z_Mem} {pc : Nat} {ls : List (Option Value)} {st : List Value} {id n : Nat} {i x : Int32} (j : Nat) (hs : z_shp[id]? = some (.inl (1, n))) (hi : i = nI j ∧ j < n ∧ n < 2 ^ 31) (hx : vp_nar .boolean x = x) (d : decode cx.1 pc = .ok (.bastore, 1)) (kk : z_Sm cx r M2 (pc + 1) ls st (z_set M id j x)) : z_Sm cx r M2 pc ls (.int x :: .int i :: .ref id :: st) M := by
  intro l D cy ad p e s m args below meth c H locs ar F w h
  obtain ⟨rfl, hj, hn⟩ := hi
  have hget := z_wd_get (cy := cy) (ad := ad) (M := M) hs
  have hset : (z_wd cy ad M).set id (ad id, .inl (cy 1, n, .inl (upd (M.1 id) j x))) = z_wd cy ad (z_set M id j x) := by
    have := z_wd_set (cy := cy) (ad := ad) (M := M) (N := z_set M id j x) (fun a ha => ⟨by simp [z_set, z_row, ha], rfl⟩) hs
    rw [z_ent, z_set, z_row_1] at this
    exact this
  refine va_zast (n := n) (f := M.1 id) F.1 F.2.1 F.2.2.2.2.2.2.2.1 w.1 w.2.1 w.2.2 id 1 hget rfl (vp_in_nI hj hn) d (fun H1 locs1 q1 q2 q3 => ?_)
  rw [nI_clamp (by omega), hx, hset] at q1 q2
  exact kk l D cy ad p e s m args below meth c H1 locs1 ar F ⟨q1, q2, q3⟩ h
theorem z_aald {cx : z_MC} {r : Option Value} {M M2 : z_Mem} {pc : Nat} {ls : List (Option Value)} {st : List Value} {id q : Nat} {ids : List Nat} {i : Int32} (j : Nat) (hs : z_shp[id]? = some (.inr (.inr ids))) (hi : i = nI j ∧ j < ids.length ∧ ids.length < 2 ^ 31) (hq : ids[j]? = some q) (d : decode cx.1 pc = .ok (.aaload, 1)) (kk : z_Sm cx r M2 (pc + 1) ls (.ref q :: st) M) : z_Sm cx r M2 pc ls (.int i :: .ref id :: st) M := by
  intro l D cy ad p e s m args below meth c H locs ar F w h
  obtain ⟨rfl, hj, hn⟩ := hi
  have hget := z_wd_get (cy := cy) (ad := ad) (M := M) hs
  have K := kk l D cy ad p e s m args below meth c H locs ar F w h
  refine va_aldq (n := ids.length) (f := fun k => (ids[k]?).map ad) (C := "SafetyPins$Plight") F.1 F.2.1 F.2.2.2.2.2.2.2.1 w.1 id 2 hget rfl (vp_in_nI hj hn) d ?_
  rw [nI_clamp (by omega), hq]
  exact K
-- the two static arrays
theorem z_getFA {cx : z_MC} {r : Option Value} {M M2 : z_Mem} {pc : Nat} {ls : List (Option Value)} {st : List Value} {idx : Nat} (hl : Cond.fieldLink cx.2.1 idx "SafetyPins" "FACTORIALS" "[I" ∈ z_tb) (d : decode cx.1 pc = .ok (.getstatic idx, 3)) (kk : z_Sm cx r M2 (pc + 3) ls (.ref 1000 :: st) M) : z_Sm cx r M2 pc ls st M := by
  intro l D cy ad p e s m args below meth c H locs ar F w h
  exact va_gets F.1 F.2.1 F.2.2.2.2.2.2.2.2.1 w.2.2 F.2.2.2.2.1 (F.2.2.2.2.2.1 _ (List.mem_cons_of_mem _ hl)) (fun _ h9 => h9) d (kk l D cy ad p e s m args below meth c H locs ar F w h)
theorem z_getTH {cx : z_MC} {r : Option Value} {M M2 : z_Mem} {pc : Nat} {ls : List (Option Value)} {st : List Value} {idx : Nat} (hl : Cond.fieldLink cx.2.1 idx "SafetyPins" "THOUSANDS" "[J" ∈ z_tb) (d : decode cx.1 pc = .ok (.getstatic idx, 3)) (kk : z_Sm cx r M2 (pc + 3) ls (.ref 1001 :: st) M) : z_Sm cx r M2 pc ls st M := by
  intro l D cy ad p e s m args below meth c H locs ar F w h
  exact va_gets F.1 F.2.1 F.2.2.2.2.2.2.2.2.2.1 w.2.2 F.2.2.2.2.1 (F.2.2.2.2.2.1 _ (List.mem_cons_of_mem _ hl)) (fun _ h9 => h9) d (kk l D cy ad p e s m args below meth c H locs ar F w h)
theorem z_ialdFA {cx : z_MC} {r : Option Value} {M M2 : z_Mem} {pc : Nat} {ls : List (Option Value)} {st : List Value} {i : Int32} (j : Nat) (hi : i = nI j ∧ j < 8) (d : decode cx.1 pc = .ok (.iaload, 1)) (kk : z_Sm cx r M2 (pc + 1) ls (.int (z_FA.getD j 0) :: st) M) : z_Sm cx r M2 pc ls (.int i :: .ref 1000 :: st) M := by
  intro l D cy ad p e s m args below meth c H locs ar F w h
  obtain ⟨rfl, hj⟩ := hi
  exact va_ti F.1 F.2.1 F.2.2.2.2.2.2.2.2.2.2.1 w.2.2 (vp_in_nI hj (by decide)) (by rw [nI_clamp (by omega)]; rfl) d (kk l D cy ad p e s m args below meth c H locs ar F w h)
theorem z_laldTH {cx : z_MC} {r : Option Value} {M M2 : z_Mem} {pc : Nat} {ls : List (Option Value)} {st : List Value} {i : Int32} (j : Nat) (hi : i = nI j ∧ j < 5) (d : decode cx.1 pc = .ok (.laload, 1)) (kk : z_Sm cx r M2 (pc + 1) ls (.long (z_TH.getD j 0) :: st) M) : z_Sm cx r M2 pc ls (.int i :: .ref 1001 :: st) M := by
  intro l D cy ad p e s m args below meth c H locs ar F w h
  obtain ⟨rfl, hj⟩ := hi
  exact va_tl F.1 F.2.1 F.2.2.2.2.2.2.2.2.2.2.2 w.2.2 (vp_in_nI hj (by decide)) (by rw [nI_clamp (by omega)]; rfl) d (kk l D cy ad p e s m args below meth c H locs ar F w h)
-- contracts and calls
def z_Ct (cx : z_MC) (as : List Value) (M : z_Mem) (r : Option Value) (M2 : z_Mem) : Prop :=
  ∀ (l : Launch) (D : va_G) (cy : Nat → ClassId) (ad : Nat → Nat), Met l cx.2.2.2.2.1 (z_ws cx) (z_rm cx.2.2.2.2.2) (va_Pc (as.map (z_mv ad)) (z_Pre D cy ad M)) (z_Q D cy ad r M2) 0 0 (z_A ad)
def z_ents : List Value → List (Option Value)
  | [] => []
  | v :: vs => if v.category = 2 then some v :: none :: z_ents vs else some v :: z_ents vs
theorem z_ents_in {ad : Nat → Nat} : ∀ (vs : List Value) (k i : Nat) (v : Value), (z_ents vs)[i]? = some (some v) → (k + i, z_mv ad v) ∈ lv_args k (vs.map (z_mv ad))
  | [], k, i, v, h => by simp [z_ents] at h
  | u :: vs, k, i, v, h => by
    rw [List.map_cons, lv_args, z_cat]
    by_cases hu : u.category = 2
    · rw [z_ents, if_pos hu] at h
      rw [if_pos hu]
      match i, h with
      | 0, h => simp at h; subst h; exact List.mem_cons_self
      | 1, h => simp at h
      | i + 2, h =>
        have := z_ents_in (ad := ad) vs (k + 2) i v (by simpa using h)
        rw [show k + 2 + i = k + (i + 2) by omega] at this
        exact List.mem_cons_of_mem _ this
    · rw [z_ents, if_neg hu] at h
      rw [if_neg hu]
      match i, h with
      | 0, h => simp at h; subst h; exact List.mem_cons_self
      | i + 1, h =>
        have := z_ents_in (ad := ad) vs (k + 1) i v (by simpa using h)
        rw [show k + 1 + i = k + (i + 1) by omega] at this
        exact List.mem_cons_of_mem _ this
theorem z_ents_len {ad : Nat → Nat} : ∀ vs : List Value, (lg_sl (vs.map (z_mv ad))).length = (z_ents vs).length
  | [] => rfl
  | u :: vs => by
    have ih := z_ents_len (ad := ad) vs
    rw [List.map_cons]
    show (lg_sl (z_mv ad u :: vs.map (z_mv ad))).length = _
    rw [show lg_sl (z_mv ad u :: vs.map (z_mv ad)) = (if (z_mv ad u).category = 2 then [Slot.val (z_mv ad u), .second] else [.val (z_mv ad u)]) ++ lg_sl (vs.map (z_mv ad)) from rfl, z_cat, List.length_append, ih, z_ents]
    by_cases hu : u.category = 2
    · rw [if_pos hu, if_pos hu]; simp; omega
    · rw [if_neg hu, if_neg hu]; simp; omega
def z_ent0 (nL : Nat) (as : List Value) : List (Option Value) := z_ents as ++ List.replicate (nL - (z_ents as).length) none
theorem z_entry {cx : z_MC} {as : List Value} {M M2 : z_Mem} {r : Option Value} (hp : plainName cx.2.2.2.2.1.cls = true) (hlen : (z_ents as).length ≤ cx.2.2.1) (hcl : cx.2.2.2.2.1.cls = cx.2.1) (k : z_Sm cx r M2 0 (z_ent0 cx.2.2.1 as) [] M) : z_Ct cx as M r M2 := by
  intro l D cy ad
  refine Met.ofW (cc := cx.1) (maxL := cx.2.2.1) (ret := cx.2.2.2.1) hp rfl ?_
  intro p e s m args below meth c s₁ B hml hv
  obtain ⟨rfl, hP, hK, hD, hZ⟩ := hv
  have hts := atoms_spec (ws := z_ws cx) B.pre
  have hown : s.vm.findClass cx.2.2.2.2.1.cls = some m.cls := findClass_of_methodNamed B.named
  have hl := lv_entry (as.map (z_mv ad)) (n := cx.2.2.1) (by rw [z_ents_len]; exact hlen)
  rw [lg_entry_eq]
  refine k l D cy ad p e s m _ below meth c s.heap [] _ ⟨B.exec, B.bytes, hml, B.returns, hcl ▸ hown, hts, B.notSynchronized, hK, hZ⟩ ⟨hP, hD, va_S.rf⟩ ⟨hl.1, hl.2.1, fun i v hi => ?_⟩
  refine hl.2.2 (i, z_mv ad v) ?_
  have hi2 : (z_ents as)[i]? = some (some v) := by
    by_cases h9 : i < (z_ents as).length
    · rwa [z_ent0, List.getElem?_append_left h9] at hi
    · rw [z_ent0, List.getElem?_append_right (by omega)] at hi
      have := List.eq_of_mem_replicate (List.mem_of_getElem? hi)
      cases this
  have := z_ents_in (ad := ad) as 0 i v hi2
  rwa [Nat.zero_add] at this
theorem z_blind {D : va_G} {cy : Nat → ClassId} {ad : Nat → Nat} {M : z_Mem} {av : List Value} : FrameBlind (va_Pc av (z_Pre D cy ad M)) := fun a U g mk q => ⟨q.1, q.2.1, va_K.moved (u := U) (U := U.calling g mk a) (Vm.Alike.refl U.vm) q.2.2.1, q.2.2.2.1, z_st_moved (u := U) (U := U.calling g mk a) (Vm.Alike.refl U.vm) q.2.2.2.2⟩
theorem z_pre_at {cx : z_MC} {D : va_G} {cy : Nat → ClassId} {ad : Nat → Nat} {p : Program} {s : State} {m : MethodId} {args : Array Value} {meth : Method} {c : Code} {M : z_Mem} {H : Heap} {locs : List Loc} {U : State} (F : z_Fx cx D cy ad p s m args meth c) (w : z_Wo D cy ad s M H locs) (hU : U.heap = H) (hW : s.WarmedH U.vm) : z_Pre D cy ad M U := by
  refine ⟨by rw [hU]; exact w.1, va_K.moved hW.alike F.2.2.2.2.2.2.2.1, w.2.1, ?_⟩
  rw [hU]
  exact z_st_kept (z_st_moved hW.alike F.2.2.2.2.2.2.2.2) w.2.2.2.1
theorem z_after {cx : z_MC} {r ro : Option Value} {M1 M2 : z_Mem} {pc : Nat} {ls : List (Option Value)} {st : List Value} (kk : z_Sm cx r M2 (pc + 3) ls (ro.toList ++ st) M1)
    {l : Launch} {D : va_G} {cy : Nat → ClassId} {ad : Nat → Nat} {p : Program} {e : Env} {s : State} {m : MethodId} {args : Array Value} {below : List Frame} {meth : Method} {c : Code} {H : Heap} {locs : List Loc} {ar : Array Slot} {M : z_Mem} {st0 : List Value} {a : Array Value}
    (F : z_Fx cx D cy ad p s m args meth c) (w : z_Wo D cy ad s M H locs) (h : z_Lo ad cx.2.2.1 ls ar)
    (hr : va_Run p l e (z_rm cx.2.2.2.2.2) s m args below meth c H locs 0 0 0 0 (F0 m pc ar st0) (st.map (z_mv ad)) (z_Q D cy ad ro M1 a) (z_A ad)) : W p l e (z_rm cx.2.2.2.2.2) s m args below meth c H locs 0 0 (MQ below (z_Q D cy ad r M2) args s 0 0 (z_A ad)) (F0 m pc ar st0) := by
  intro T hT X
  obtain ⟨v, st₀, t, T', L, h0, X', hL, e1, e2, ⟨⟨hv, hPt⟩, hz, hk⟩, go⟩ := hr T hT X
  have hv : v = ro.map (z_mv ad) := by cases hv; rfl
  subst hv
  rw [h0] at hz hk
  have hS := w.2.2
  have K := kk l D cy ad p e s m args below meth c T'.heap (locs ++ L) ar F ⟨by rw [e1]; exact hPt.1, hPt.2.2.1, Nat.le_trans hS.1 (by rw [e1]; exact hz), fun q h1 h2 => by rw [e1, hk q (Nat.lt_of_lt_of_le h1 hS.1) h2]; exact hS.2.1 q h1 h2, fun q hq => by
      rcases List.mem_append.mp hq with h9 | h9
      · exact hS.2.2 q h9
      · exact hL q h9⟩ h
  obtain ⟨t2, a1, b1⟩ := K T' rfl X'
  refine ⟨t2, go t2 ?_, b1⟩
  have e9 : (ro.map (z_mv ad)).toList ++ st.map (z_mv ad) = (ro.toList ++ st).map (z_mv ad) := by cases ro <;> simp
  rw [show ({ F0 m pc ar st0 with pc := (F0 m pc ar st0).pc + 3, stack := (ro.map (z_mv ad)).toList ++ st.map (z_mv ad) } : JFrame) = F0 m (pc + 3) ar ((ro.toList ++ st).map (z_mv ad)) by rw [e9]]
  exact a1
theorem z_gT {w : Cond} (h : w ∈ z_tb) : (w.onTables && w.keeps) = true ∨ ∃ ty, w = .arrayClass ty := good_of_word (List.mem_filter.mp h).2
/-- what a call by invokevirtual needs of the words and the room -/
def z_CV (own : String) (lv : Nat) (idx : Nat) (cx2 : z_MC) (C : String) (n : Nat) : Prop := (Cond.methodLink own idx cx2.2.2.2.2.1 ∈ z_tb ∧ Cond.instanceMethod cx2.2.2.2.2.1 ∈ z_tb ∧ Cond.selects C cx2.2.2.2.2.1 cx2.2.2.2.2.1 ∈ z_tb ∧ Cond.initialized C ∈ z_tb ∧ Cond.code cx2.2.2.2.2.1 cx2.1 cx2.2.2.1 cx2.2.2.2.1 ∈ z_tb) ∧ (cx2.2.2.2.2.1.cls = C ∧ cx2.2.2.2.2.1.cls ≠ "java/lang/invoke/MethodHandle" ∧ cx2.2.2.2.2.1.cls ≠ "java/lang/invoke/VarHandle" ∧ (parseMethodDescriptor cx2.2.2.2.2.1.desc).map (fun d => d.parameters.length) = some n) ∧ (cx2.2.2.2.2.2 + 1 ≤ lv ∧ 8 + (cx2.2.2.1 + 11) + 36 * cx2.2.2.2.2.2 ≤ 36 * lv)
def z_CS (own : String) (lv : Nat) (idx : Nat) (cx2 : z_MC) (n : Nat) : Prop := (Cond.methodLink own idx cx2.2.2.2.2.1 ∈ z_tb ∧ Cond.static cx2.2.2.2.2.1 ∈ z_tb ∧ Cond.initialized cx2.2.2.2.2.1.cls ∈ z_tb ∧ Cond.code cx2.2.2.2.2.1 cx2.1 cx2.2.2.1 cx2.2.2.2.1 ∈ z_tb) ∧ (cx2.2.2.2.2.1.cls ≠ "java/lang/invoke/MethodHandle" ∧ cx2.2.2.2.2.1.cls ≠ "java/lang/invoke/VarHandle" ∧ (parseMethodDescriptor cx2.2.2.2.2.1.desc).map (fun d => d.parameters.length) = some n) ∧ (cx2.2.2.2.2.2 + 1 ≤ lv ∧ 8 + (cx2.2.2.1 + 11) + 36 * cx2.2.2.2.2.2 ≤ 36 * lv)
theorem z_wsIn {big : List Cond} {cx2 : z_MC} (hb : ∀ w ∈ z_tb, w ∈ big) (h : Cond.code cx2.2.2.2.2.1 cx2.1 cx2.2.2.1 cx2.2.2.2.1 ∈ z_tb) : GoodIn big (z_ws cx2) := by
  intro w hw
  rcases List.mem_cons.mp hw with rfl | hw
  · exact ⟨hb _ h, z_gT h⟩
  · exact ⟨hb _ hw, z_gT hw⟩
theorem z_gV {big : List Cond} {own : String} {idx : Nat} {cx2 : z_MC} {C : String} (hb : ∀ w ∈ z_tb, w ∈ big) (g : Cond.methodLink own idx cx2.2.2.2.2.1 ∈ z_tb ∧ Cond.instanceMethod cx2.2.2.2.2.1 ∈ z_tb ∧ Cond.selects C cx2.2.2.2.2.1 cx2.2.2.2.2.1 ∈ z_tb ∧ Cond.initialized C ∈ z_tb ∧ Cond.code cx2.2.2.2.2.1 cx2.1 cx2.2.2.1 cx2.2.2.2.1 ∈ z_tb) : GoodIn big (wsV own idx C cx2.2.2.2.2.1 (z_ws cx2)) := by
  intro w hw
  obtain ⟨g1, g2, g3, g4, g5⟩ := g
  rcases List.mem_append.mp hw with hw | hw
  · simp only [List.mem_cons, List.not_mem_nil, or_false] at hw
    rcases hw with rfl | rfl | rfl | rfl
    · exact ⟨hb _ g1, z_gT g1⟩
    · exact ⟨hb _ g2, z_gT g2⟩
    · exact ⟨hb _ g3, z_gT g3⟩
    · exact ⟨hb _ g4, z_gT g4⟩
  · exact z_wsIn hb g5 w hw
theorem z_gS {big : List Cond} {own : String} {idx : Nat} {cx2 : z_MC} (hb : ∀ w ∈ z_tb, w ∈ big) (g : Cond.methodLink own idx cx2.2.2.2.2.1 ∈ z_tb ∧ Cond.static cx2.2.2.2.2.1 ∈ z_tb ∧ Cond.initialized cx2.2.2.2.2.1.cls ∈ z_tb ∧ Cond.code cx2.2.2.2.2.1 cx2.1 cx2.2.2.1 cx2.2.2.2.1 ∈ z_tb) : GoodIn big (va_wsS own idx cx2.2.2.2.2.1 (z_ws cx2)) := by
  intro w hw
  obtain ⟨g1, g2, g3, g5⟩ := g
  rcases List.mem_append.mp hw with hw | hw
  · simp only [List.mem_cons, List.not_mem_nil, or_false] at hw
    rcases hw with rfl | rfl | rfl
    · exact ⟨hb _ g1, z_gT g1⟩
    · exact ⟨hb _ g2, z_gT g2⟩
    · exact ⟨hb _ g3, z_gT g3⟩
  · exact z_wsIn hb g5 w hw
theorem z_callV {cx cx2 : z_MC} {r ro : Option Value} {M M1 M2 : z_Mem} {pc idx n b ci N : Nat} {ls : List (Option Value)} {st st0 As : List Value} {C : String} {T : u_T} {fks : List Nat} (hC : z_Ct cx2 (.ref b :: As) M ro M1) (hg : z_CV cx.2.1 cx.2.2.2.2.2 idx cx2 C n) (hs : z_shp[b]? = some (.inr (.inl (ci, fks)))) (hc : vwCl[ci]? = some (C, T, N)) (hn : As.length = n) (hst : st0 = As.reverse ++ .ref b :: st) (hcat : (st.map fun v => v.category).sum ≤ 8) (d : decode cx.1 pc = .ok (.invokevirtual idx, 3)) (kk : z_Sm cx r M2 (pc + 3) ls (ro.toList ++ st) M1) : z_Sm cx r M2 pc ls st0 M := by
  intro l D cy ad p e s m args below meth c H locs ar F w h
  obtain ⟨g1, g3, g4⟩ := hg
  have hget := z_wd_get (cy := cy) (ad := ad) (M := M) hs
  refine z_after kk F w h (a := (Value.ref (ad b) :: As.map (z_mv ad)).toArray) (va_runV (As := As.map (z_mv ad)) (rest := st.map (z_mv ad)) (nL := cx.2.2.1) ⟨F.1, F.2.1, F.2.2.1, F.2.2.2.2.1, F.2.2.2.2.2.1⟩ (hC l D cy ad) (cwV n F.2.2.2.2.2.1 (z_gV (fun _ h9 => List.mem_cons_of_mem _ h9) g1) rfl rfl rfl g3 g4) ⟨z_blind, va_recv (q0 := b) F.2.2.2.2.2.2.2.1 w.1 hc hget, fun U hU hW => ⟨rfl, z_pre_at F w hU hW⟩⟩ rfl (by rw [List.length_map]; exact hn) h.1 ?_ (lv_room (by rw [z_cats]; exact hcat)) d ⟨Nat.le_refl _, Nat.le_refl _⟩)
  subst hst
  show ((As.reverse ++ Value.ref b :: st).map (z_mv ad)) = _
  rw [List.map_append, List.map_cons, List.map_reverse]
  rfl
theorem z_callS {cx cx2 : z_MC} {r ro : Option Value} {M M1 M2 : z_Mem} {pc idx n : Nat} {ls : List (Option Value)} {st st0 As : List Value} (hC : z_Ct cx2 As M ro M1) (hg : z_CS cx.2.1 cx.2.2.2.2.2 idx cx2 n) (hn : As.length = n) (hst : st0 = As.reverse ++ st) (hcat : (st.map fun v => v.category).sum ≤ 8) (d : decode cx.1 pc = .ok (.invokestatic idx, 3)) (kk : z_Sm cx r M2 (pc + 3) ls (ro.toList ++ st) M1) : z_Sm cx r M2 pc ls st0 M := by
  intro l D cy ad p e s m args below meth c H locs ar F w h
  obtain ⟨g1, g3, g4⟩ := hg
  refine z_after kk F w h (a := (As.map (z_mv ad)).toArray) (va_runS (As := As.map (z_mv ad)) (rest := st.map (z_mv ad)) (nL := cx.2.2.1) ⟨F.1, F.2.1, F.2.2.1, F.2.2.2.2.1, F.2.2.2.2.2.1⟩ (hC l D cy ad) (va_cwS n F.2.2.2.2.2.1 (z_gS (fun _ h9 => List.mem_cons_of_mem _ h9) g1) rfl rfl rfl g3 g4) ⟨z_blind, fun U hU hW => ⟨rfl, z_pre_at F w hU hW⟩⟩ rfl (by rw [List.length_map]; exact hn) h.1 ?_ (lv_room (by rw [z_cats]; exact hcat)) d ⟨Nat.le_refl _, Nat.le_refl _⟩)
  subst hst
  show ((As.reverse ++ st).map (z_mv ad)) = _
  rw [List.map_append, List.map_reverse]
-- ends
theorem z_iret {cx : z_MC} {M M2 : z_Mem} {pc : Nat} {ls : List (Option Value)} {v w : Int32} (hr : cx.2.2.2.1 = some .int) (d : decode cx.1 pc = .ok (.ireturn, 1)) (hv : v = w) (hM : M = M2) : z_Sm cx (some (.int w)) M2 pc ls [.int v] M := by
  subst hv; subst hM
  intro l D cy ad p e s m args below meth c H locs ar F w h
  exact W.iret F.1 F.2.1 (F.2.2.2.1.trans hr) (fun t ht hW => ⟨⟨rfl, z_pre_at F w ht hW⟩, w.2.2.F ht⟩) w.2.2.2.2 d F.2.2.2.2.2.2.1
theorem z_zret {cx : z_MC} {M M2 : z_Mem} {pc : Nat} {ls : List (Option Value)} {v w : Int32} (hr : cx.2.2.2.1 = some .boolean) (d : decode cx.1 pc = .ok (.ireturn, 1)) (hn : narrow .boolean (.int v) = .int v) (hv : v = w) (hM : M = M2) : z_Sm cx (some (.int w)) M2 pc ls [.int v] M := by
  subst hv; subst hM
  intro l D cy ad p e s m args below meth c H locs ar F w h
  exact W.zret F.1 F.2.1 (F.2.2.2.1.trans hr) hn (fun t ht hW => ⟨⟨rfl, z_pre_at F w ht hW⟩, w.2.2.F ht⟩) w.2.2.2.2 d F.2.2.2.2.2.2.1
theorem z_lret {cx : z_MC} {M M2 : z_Mem} {pc : Nat} {ls : List (Option Value)} {v w : Int64} (hr : cx.2.2.2.1 = some .long) (d : decode cx.1 pc = .ok (.lreturn, 1)) (hv : v = w) (hM : M = M2) : z_Sm cx (some (.long w)) M2 pc ls [.long v] M := by
  subst hv; subst hM
  intro l D cy ad p e s m args below meth c H locs ar F w h
  exact W.lret F.1 F.2.1 (F.2.2.2.1.trans hr) (fun t ht hW => ⟨⟨rfl, z_pre_at F w ht hW⟩, w.2.2.F ht⟩) w.2.2.2.2 d F.2.2.2.2.2.2.1
theorem z_vret {cx : z_MC} {M M2 : z_Mem} {pc : Nat} {ls : List (Option Value)} (hr : cx.2.2.2.1 = none) (d : decode cx.1 pc = .ok (.return_, 1)) (hM : M = M2) : z_Sm cx none M2 pc ls [] M := by
  subst hM
  intro l D cy ad p e s m args below meth c H locs ar F w h
  exact W.vret F.1 F.2.1 (F.2.2.2.1.trans hr) (fun t ht hW => ⟨⟨rfl, z_pre_at F w ht hW⟩, w.2.2.F ht⟩) w.2.2.2.2 d F.2.2.2.2.2.2.1
end
section
def mX0_forget : z_MC := (cX0_forget, RX0, 1, none, yX0_forget, 0)
def mX0_remember : z_MC := (cX0_remember, RX0, 2, none, yX0_remember, 1)
def mX0_takeBack : z_MC := (cX0_takeBack, RX0, 2, none, yX0_takeBack, 1)
def mX1_clear : z_MC := (cX1_clear, RX1, 2, none, yX1_clear, 0)
def mX1_burden : z_MC := (cX1_burden, RX1, 3, none, yX1_burden, 0)
def mX1_burdenEnds : z_MC := (cX1_burdenEnds, RX1, 2, none, yX1_burdenEnds, 0)
def mX1_loadOf : z_MC := (cX1_loadOf, RX1, 2, (some .int), yX1_loadOf, 0)
def mX1_ping : z_MC := (cX1_ping, RX1, 6, (some .int), yX1_ping, 3)
def mX1_givingNow : z_MC := (cX1_givingNow, RX1, 4, (some .int), yX1_givingNow, 2)
def mX1_pullAt : z_MC := (cX1_pullAt, RX1, 4, (some .int), yX1_pullAt, 4)
def mX1_passDay : z_MC := (cX1_passDay, RX1, 3, (some .int), yX1_passDay, 4)
def mX1_springShut : z_MC := (cX1_springShut, RX1, 3, none, yX1_springShut, 0)
def mX1_wearDown : z_MC := (cX1_wearDown, RX1, 3, none, yX1_wearDown, 1)
def mX2_begin : z_MC := (cX2_begin, RX2, 2, none, yX2_begin, 0)
def mX2_become : z_MC := (cX2_become, RX2, 3, none, yX2_become, 0)
def mX2_isOpen : z_MC := (cX2_isOpen, RX2, 2, (some .boolean), yX2_isOpen, 0)
def mX2_close : z_MC := (cX2_close, RX2, 2, none, yX2_close, 0)
def mX2_unpin : z_MC := (cX2_unpin, RX2, 2, none, yX2_unpin, 0)
def mX2_wearOfAll : z_MC := (cX2_wearOfAll, RX2, 3, (some .int), yX2_wearOfAll, 0)
def mX3_add : z_MC := (cX3_add, RX3, 2, none, yX3_add, 0)
def mX3_figure : z_MC := (cX3_figure, RX3, 3, (some .int), yX3_figure, 0)
def mX3_sizeOfPart : z_MC := (cX3_sizeOfPart, RX3, 1, (some .int), yX3_sizeOfPart, 0)
def mX3_mostOf : z_MC := (cX3_mostOf, RX3, 1, (some .int), yX3_mostOf, 0)
def mX3_firstFault : z_MC := (cX3_firstFault, RX3, 3, (some .int), yX3_firstFault, 2)
def mX3_canBegin : z_MC := (cX3_canBegin, RX3, 5, (some .boolean), yX3_canBegin, 1)
def mX3_canGoOn : z_MC := (cX3_canGoOn, RX3, 5, (some .boolean), yX3_canGoOn, 1)
def mX4_readFrom : z_MC := (cX4_readFrom, RX4, 4, none, yX4_readFrom, 2)
def mX4_addPin : z_MC := (cX4_addPin, RX4, 3, none, yX4_addPin, 1)
def mX4_allPins : z_MC := (cX4_allPins, RX4, 1, (some .int), yX4_allPins, 0)
def mX4_holds : z_MC := (cX4_holds, RX4, 3, (some .int), yX4_holds, 1)
def mX4_endsOf : z_MC := (cX4_endsOf, RX4, 2, (some .int), yX4_endsOf, 0)
def mX4_reach : z_MC := (cX4_reach, RX4, 6, (some .int), yX4_reach, 1)
def mX4_areTogether : z_MC := (cX4_areTogether, RX4, 4, (some .boolean), yX4_areTogether, 2)
def mX4_pairsTogether : z_MC := (cX4_pairsTogether, RX4, 4, (some .int), yX4_pairsTogether, 2)
def mX4_doable : z_MC := (cX4_doable, RX4, 4, (some .int), yX4_doable, 3)
def mX5_add : z_MC := (cX5_add, RX5, 3, none, yX5_add, 0)
def mX5_agreeWith : z_MC := (cX5_agreeWith, RX5, 5, (some .boolean), yX5_agreeWith, 0)
def mX6_write : z_MC := (cX6_write, RX6, 2, (some .int), yX6_write, 1)
def mX6_wipe : z_MC := (cX6_wipe, RX6, 2, (some .int), yX6_wipe, 0)
def mX6_fault : z_MC := (cX6_fault, RX6, 1, (some .int), yX6_fault, 3)
def mX6_town : z_MC := (cX6_town, RX6, 2, (some .int), yX6_town, 3)
def mX6_pin : z_MC := (cX6_pin, RX6, 3, (some .int), yX6_pin, 2)
def mX6_with : z_MC := (cX6_with, RX6, 2, (some .int), yX6_with, 2)
def mX6_day : z_MC := (cX6_day, RX6, 1, (some .int), yX6_day, 5)
def mX6_tug : z_MC := (cX6_tug, RX6, 3, (some .int), yX6_tug, 5)
def mX6_shut : z_MC := (cX6_shut, RX6, 2, (some .int), yX6_shut, 2)
def mX6_open : z_MC := (cX6_open, RX6, 2, (some .int), yX6_open, 2)
def mX6_undo : z_MC := (cX6_undo, RX6, 1, (some .int), yX6_undo, 2)
def mX6_later : z_MC := (cX6_later, RX6, 3, (some .int), yX6_later, 5)
def mX6_lasts : z_MC := (cX6_lasts, RX6, 3, (some .int), yX6_lasts, 5)
def mX6_chain : z_MC := (cX6_chain, RX6, 2, (some .int), yX6_chain, 4)
def mX6_cuts : z_MC := (cX6_cuts, RX6, 6, (some .int), yX6_cuts, 3)
def mX6_parts : z_MC := (cX6_parts, RX6, 7, (some .int), yX6_parts, 6)
def mX6_letsGo : z_MC := (cX6_letsGo, RX6, 4, (some .int), yX6_letsGo, 4)
def mX6_judge : z_MC := (cX6_judge, RX6, 6, (some .int), yX6_judge, 6)
def mX6_trial : z_MC := (cX6_trial, RX6, 3, (some .int), yX6_trial, 1)
def mX6_untry : z_MC := (cX6_untry, RX6, 2, (some .int), yX6_untry, 0)
def mX6_which : z_MC := (cX6_which, RX6, 5, (some .int), yX6_which, 1)
def mX6_share : z_MC := (cX6_share, RX6, 5, (some .int), yX6_share, 4)
def mX6_rests : z_MC := (cX6_rests, RX6, 9, (some .int), yX6_rests, 5)
def mX6_gives : z_MC := (cX6_gives, RX6, 13, (some .int), yX6_gives, 3)
def mX6_seed : z_MC := (cX6_seed, RX6, 5, (some .long), yX6_seed, 0)
def mX6_seasons : z_MC := (cX6_seasons, RX6, 4, (some .int), yX6_seasons, 6)
def mX6_keep : z_MC := (cX6_keep, RX6, 2, (some .int), yX6_keep, 1)
def mX6_again : z_MC := (cX6_again, RX6, 2, (some .int), yX6_again, 1)
def mX6_count : z_MC := (cX6_count, RX6, 2, (some .int), yX6_count, 4)
def mX6_isThing : z_MC := (cX6_isThing, RX6, 1, (some .boolean), yX6_isThing, 0)
def mX6_isPin : z_MC := (cX6_isPin, RX6, 2, (some .boolean), yX6_isPin, 0)
def mX6_refusalOfTwo : z_MC := (cX6_refusalOfTwo, RX6, 2, (some .int), yX6_refusalOfTwo, 1)
def mX6_isBetterCut : z_MC := (cX6_isBetterCut, RX6, 4, (some .boolean), yX6_isBetterCut, 1)
def mX6_firstThatParts : z_MC := (cX6_firstThatParts, RX6, 5, (some .int), yX6_firstThatParts, 5)
def mX6_comesTrue : z_MC := (cX6_comesTrue, RX6, 4, (some .boolean), yX6_comesTrue, 5)
def mX6_closesInThought : z_MC := (cX6_closesInThought, RX6, 2, (some .boolean), yX6_closesInThought, 1)
def mX6_unpinsInThought : z_MC := (cX6_unpinsInThought, RX6, 2, (some .boolean), yX6_unpinsInThought, 1)
def mX6_passSeason : z_MC := (cX6_passSeason, RX6, 2, none, yX6_passSeason, 5)
def mX6_pairsBroughtInAllOrders : z_MC := (cX6_pairsBroughtInAllOrders, RX6, 11, (some .long), yX6_pairsBroughtInAllOrders, 3)
def mX6_reckonGains : z_MC := (cX6_reckonGains, RX6, 6, none, yX6_reckonGains, 4)
def mX6_priceOfBeingAlone : z_MC := (cX6_priceOfBeingAlone, RX6, 2, (some .int), yX6_priceOfBeingAlone, 2)
def mX6_isAtRest : z_MC := (cX6_isAtRest, RX6, 5, (some .boolean), yX6_isAtRest, 0)
def mX6_power : z_MC := (cX6_power, RX6, 5, (some .long), yX6_power, 0)
def mX6_inLeastTerms : z_MC := (cX6_inLeastTerms, RX6, 7, (some .int), yX6_inLeastTerms, 2)
def mX6_commonDivisor : z_MC := (cX6_commonDivisor, RX6, 11, (some .long), yX6_commonDivisor, 1)
def mX7_in : z_MC := (cX7_in, RX7, 6, (some .boolean), yX7_in, 0)
def mX7_has : z_MC := (cX7_has, RX7, 2, (some .boolean), yX7_has, 0)
def mX7_ones : z_MC := (cX7_ones, RX7, 3, (some .int), yX7_ones, 0)
def mX7_write : z_MC := (cX7_write, RX7, 2, (some .int), yX7_write, 1)
def mX7_wipe : z_MC := (cX7_wipe, RX7, 2, (some .int), yX7_wipe, 0)
def mX7_figureOf : z_MC := (cX7_figureOf, RX7, 5, (some .int), yX7_figureOf, 1)
def mX7_readText : z_MC := (cX7_readText, RX7, 1, (some .int), yX7_readText, 3)
def mX7_readPart : z_MC := (cX7_readPart, RX7, 3, none, yX7_readPart, 2)
def mX7_fault : z_MC := (cX7_fault, RX7, 1, (some .int), yX7_fault, 4)
def mX7_town : z_MC := (cX7_town, RX7, 2, (some .int), yX7_town, 4)
def mX7_isPin : z_MC := (cX7_isPin, RX7, 2, (some .boolean), yX7_isPin, 1)
def mX7_isThing : z_MC := (cX7_isThing, RX7, 1, (some .boolean), yX7_isThing, 1)
def mX7_all : z_MC := (cX7_all, RX7, 1, (some .int), yX7_all, 0)
def mX7_withBy : z_MC := (cX7_withBy, RX7, 7, (some .int), yX7_withBy, 1)
def mX7_isTogether : z_MC := (cX7_isTogether, RX7, 4, (some .boolean), yX7_isTogether, 2)
def mX7_pairsBy : z_MC := (cX7_pairsBy, RX7, 5, (some .int), yX7_pairsBy, 3)
def mX7_doableBy : z_MC := (cX7_doableBy, RX7, 4, (some .int), yX7_doableBy, 3)
def mX7_unload : z_MC := (cX7_unload, RX7, 2, none, yX7_unload, 0)
def mX7_holdsOn : z_MC := (cX7_holdsOn, RX7, 4, (some .int), yX7_holdsOn, 0)
def mX7_onBoth : z_MC := (cX7_onBoth, RX7, 2, (some .int), yX7_onBoth, 0)
def mX7_ping : z_MC := (cX7_ping, RX7, 5, (some .int), yX7_ping, 1)
def mX7_tugOn : z_MC := (cX7_tugOn, RX7, 4, (some .int), yX7_tugOn, 2)
def mX7_passOn : z_MC := (cX7_passOn, RX7, 5, (some .int), yX7_passOn, 2)
def mX7_shutOn : z_MC := (cX7_shutOn, RX7, 3, none, yX7_shutOn, 0)
def mX7_pin : z_MC := (cX7_pin, RX7, 3, (some .int), yX7_pin, 2)
def mX7_with : z_MC := (cX7_with, RX7, 2, (some .int), yX7_with, 2)
def mX7_keepAct : z_MC := (cX7_keepAct, RX7, 2, none, yX7_keepAct, 0)
def mX7_day : z_MC := (cX7_day, RX7, 1, (some .int), yX7_day, 3)
def mX7_tug : z_MC := (cX7_tug, RX7, 3, (some .int), yX7_tug, 3)
def mX7_shut : z_MC := (cX7_shut, RX7, 2, (some .int), yX7_shut, 2)
def mX7_open : z_MC := (cX7_open, RX7, 2, (some .int), yX7_open, 2)
def mX7_undo : z_MC := (cX7_undo, RX7, 2, (some .int), yX7_undo, 0)
def mX7_layTrial : z_MC := (cX7_layTrial, RX7, 2, none, yX7_layTrial, 0)
def mX7_later : z_MC := (cX7_later, RX7, 3, (some .int), yX7_later, 3)
def mX7_lasts : z_MC := (cX7_lasts, RX7, 3, (some .int), yX7_lasts, 3)
def mX7_chain : z_MC := (cX7_chain, RX7, 2, (some .int), yX7_chain, 2)
def mX7_cuts : z_MC := (cX7_cuts, RX7, 6, (some .int), yX7_cuts, 3)
def mX7_parts : z_MC := (cX7_parts, RX7, 6, (some .int), yX7_parts, 3)
def mX7_letsGo : z_MC := (cX7_letsGo, RX7, 5, (some .int), yX7_letsGo, 4)
def mX7_tryThing : z_MC := (cX7_tryThing, RX7, 7, (some .boolean), yX7_tryThing, 4)
def mX7_thousandTo : z_MC := (cX7_thousandTo, RX7, 4, (some .long), yX7_thousandTo, 0)
def mX7_judge : z_MC := (cX7_judge, RX7, 6, (some .int), yX7_judge, 5)
def mX7_trial : z_MC := (cX7_trial, RX7, 3, (some .int), yX7_trial, 1)
def mX7_untry : z_MC := (cX7_untry, RX7, 2, (some .int), yX7_untry, 0)
def mX7_which : z_MC := (cX7_which, RX7, 8, (some .int), yX7_which, 1)
def mX7_factorial : z_MC := (cX7_factorial, RX7, 3, (some .int), yX7_factorial, 0)
def mX7_common : z_MC := (cX7_common, RX7, 5, (some .int), yX7_common, 0)
def mX7_share : z_MC := (cX7_share, RX7, 7, (some .int), yX7_share, 4)
def mX7_gain : z_MC := (cX7_gain, RX7, 6, (some .int), yX7_gain, 2)
def mX7_isRest : z_MC := (cX7_isRest, RX7, 7, (some .boolean), yX7_isRest, 3)
def mX7_rests : z_MC := (cX7_rests, RX7, 7, (some .int), yX7_rests, 4)
def mX7_power : z_MC := (cX7_power, RX7, 4, (some .int), yX7_power, 0)
def mX7_gives : z_MC := (cX7_gives, RX7, 10, (some .int), yX7_gives, 3)
def mX7_seed : z_MC := (cX7_seed, RX7, 5, (some .long), yX7_seed, 0)
def mX7_seasons : z_MC := (cX7_seasons, RX7, 5, (some .int), yX7_seasons, 5)
def mX7_keep : z_MC := (cX7_keep, RX7, 3, (some .int), yX7_keep, 1)
def mX7_again : z_MC := (cX7_again, RX7, 3, (some .int), yX7_again, 1)
def mX7_wearOfAll : z_MC := (cX7_wearOfAll, RX7, 3, (some .int), yX7_wearOfAll, 0)
def mX7_count : z_MC := (cX7_count, RX7, 2, (some .int), yX7_count, 4)
def mJ6_bitCount_0f7a4 : z_MC := (cJ6_bitCount_0f7a4, RJ6, 1, (some .int), yJ6_bitCount_0f7a4, 0)
def mJ9_floorMod_7cf53 : z_MC := (cJ9_floorMod_7cf53, RJ9, 3, (some .int), yJ9_floorMod_7cf53, 0)
def mJ9_max_7cf53 : z_MC := (cJ9_max_7cf53, RJ9, 2, (some .int), yJ9_max_7cf53, 0)
def mJ9_max_f86c9 : z_MC := (cJ9_max_f86c9, RJ9, 4, (some .long), yJ9_max_f86c9, 0)
def mJ9_min_7cf53 : z_MC := (cJ9_min_7cf53, RJ9, 2, (some .int), yJ9_min_7cf53, 0)
theorem q_fX6_10 : z_FL RX6 10 6 0 := ⟨RX6, TX6, 12, rfl, by decide, z_in 163 (by decide +kernel)⟩
theorem q_fX6_19 : z_FL RX6 19 6 1 := ⟨RX6, TX6, 12, rfl, by decide, z_in 164 (by decide +kernel)⟩
theorem q_fX6_28 : z_FL RX6 28 6 2 := ⟨RX6, TX6, 12, rfl, by decide, z_in 165 (by decide +kernel)⟩
theorem q_fX6_35 : z_FL RX6 35 6 3 := ⟨RX6, TX6, 12, rfl, by decide, z_in 166 (by decide +kernel)⟩
theorem q_fX6_39 : z_FL RX6 39 6 4 := ⟨RX6, TX6, 12, rfl, by decide, z_in 167 (by decide +kernel)⟩
theorem q_fX6_45 : z_FL RX6 45 6 5 := ⟨RX6, TX6, 12, rfl, by decide, z_in 168 (by decide +kernel)⟩
theorem q_fX6_49 : z_FL RX6 49 6 6 := ⟨RX6, TX6, 12, rfl, by decide, z_in 169 (by decide +kernel)⟩
theorem q_fX6_53 : z_FL RX6 53 6 7 := ⟨RX6, TX6, 12, rfl, by decide, z_in 170 (by decide +kernel)⟩
theorem q_fX6_60 : z_FL RX6 60 6 8 := ⟨RX6, TX6, 12, rfl, by decide, z_in 171 (by decide +kernel)⟩
theorem q_fX6_64 : z_FL RX6 64 6 9 := ⟨RX6, TX6, 12, rfl, by decide, z_in 172 (by decide +kernel)⟩
theorem q_fX6_68 : z_FL RX6 68 6 10 := ⟨RX6, TX6, 12, rfl, by decide, z_in 173 (by decide +kernel)⟩
theorem q_fX6_71 : z_FL RX6 71 6 11 := ⟨RX6, TX6, 12, rfl, by decide, z_in 174 (by decide +kernel)⟩
theorem q_fX6_75 : z_FL RX6 75 3 1 := ⟨RX3, TX3, 2, rfl, by decide, z_in 28 (by decide +kernel)⟩
theorem q_fX6_97 : z_FL RX6 97 4 0 := ⟨RX4, TX4, 11, rfl, by decide, z_in 43 (by decide +kernel)⟩
theorem q_fX6_100 : z_FL RX6 100 4 5 := ⟨RX4, TX4, 11, rfl, by decide, z_in 57 (by decide +kernel)⟩
theorem q_fX6_103 : z_FL RX6 103 4 8 := ⟨RX4, TX4, 11, rfl, by decide, z_in 64 (by decide +kernel)⟩
theorem q_fX6_110 : z_FL RX6 110 4 1 := ⟨RX4, TX4, 11, rfl, by decide, z_in 47 (by decide +kernel)⟩
theorem q_fX6_113 : z_FL RX6 113 4 2 := ⟨RX4, TX4, 11, rfl, by decide, z_in 50 (by decide +kernel)⟩
theorem q_fX6_116 : z_FL RX6 116 4 3 := ⟨RX4, TX4, 11, rfl, by decide, z_in 52 (by decide +kernel)⟩
theorem q_fX6_119 : z_FL RX6 119 4 4 := ⟨RX4, TX4, 11, rfl, by decide, z_in 54 (by decide +kernel)⟩
theorem q_fX6_122 : z_FL RX6 122 2 1 := ⟨RX2, TX2, 3, rfl, by decide, z_in 113 (by decide +kernel)⟩
theorem q_fX6_135 : z_FL RX6 135 2 0 := ⟨RX2, TX2, 3, rfl, by decide, z_in 111 (by decide +kernel)⟩
theorem q_fX6_165 : z_FL RX6 165 0 2 := ⟨RX0, TX0, 3, rfl, by decide, z_in 137 (by decide +kernel)⟩
theorem q_fX6_211 : z_FL RX6 211 5 2 := ⟨RX5, TX5, 3, rfl, by decide, z_in 154 (by decide +kernel)⟩
theorem q_fX6_247 : z_FL RX6 247 2 2 := ⟨RX2, TX2, 3, rfl, by decide, z_in 117 (by decide +kernel)⟩
theorem q_fX0_11 : z_FL RX0 11 0 0 := ⟨RX0, TX0, 3, rfl, by decide, z_in 134 (by decide +kernel)⟩
theorem q_fX0_17 : z_FL RX0 17 0 1 := ⟨RX0, TX0, 3, rfl, by decide, z_in 135 (by decide +kernel)⟩
theorem q_fX0_21 : z_FL RX0 21 0 2 := ⟨RX0, TX0, 3, rfl, by decide, z_in 136 (by decide +kernel)⟩
theorem q_fX1_9 : z_FL RX1 9 1 1 := ⟨RX1, TX1, 2, rfl, by decide, z_in 97 (by decide +kernel)⟩
theorem q_fX1_15 : z_FL RX1 15 1 0 := ⟨RX1, TX1, 2, rfl, by decide, z_in 96 (by decide +kernel)⟩
theorem q_fX1_19 : z_FL RX1 19 4 1 := ⟨RX4, TX4, 11, rfl, by decide, z_in 46 (by decide +kernel)⟩
theorem q_fX1_24 : z_FL RX1 24 4 2 := ⟨RX4, TX4, 11, rfl, by decide, z_in 49 (by decide +kernel)⟩
theorem q_fX1_27 : z_FL RX1 27 2 0 := ⟨RX2, TX2, 3, rfl, by decide, z_in 110 (by decide +kernel)⟩
theorem q_fX1_39 : z_FL RX1 39 4 0 := ⟨RX4, TX4, 11, rfl, by decide, z_in 44 (by decide +kernel)⟩
theorem q_fX1_57 : z_FL RX1 57 2 1 := ⟨RX2, TX2, 3, rfl, by decide, z_in 114 (by decide +kernel)⟩
theorem q_fX1_78 : z_FL RX1 78 4 5 := ⟨RX4, TX4, 11, rfl, by decide, z_in 58 (by decide +kernel)⟩
theorem q_fX1_81 : z_FL RX1 81 2 2 := ⟨RX2, TX2, 3, rfl, by decide, z_in 116 (by decide +kernel)⟩
theorem q_fX1_89 : z_FL RX1 89 4 6 := ⟨RX4, TX4, 11, rfl, by decide, z_in 60 (by decide +kernel)⟩
theorem q_fX1_92 : z_FL RX1 92 4 7 := ⟨RX4, TX4, 11, rfl, by decide, z_in 62 (by decide +kernel)⟩
theorem q_fX1_98 : z_FL RX1 98 4 4 := ⟨RX4, TX4, 11, rfl, by decide, z_in 55 (by decide +kernel)⟩
theorem q_fX2_9 : z_FL RX2 9 2 0 := ⟨RX2, TX2, 3, rfl, by decide, z_in 109 (by decide +kernel)⟩
theorem q_fX2_15 : z_FL RX2 15 2 1 := ⟨RX2, TX2, 3, rfl, by decide, z_in 112 (by decide +kernel)⟩
theorem q_fX2_19 : z_FL RX2 19 2 2 := ⟨RX2, TX2, 3, rfl, by decide, z_in 115 (by decide +kernel)⟩
theorem q_fX3_9 : z_FL RX3 9 3 0 := ⟨RX3, TX3, 2, rfl, by decide, z_in 25 (by decide +kernel)⟩
theorem q_fX3_15 : z_FL RX3 15 3 1 := ⟨RX3, TX3, 2, rfl, by decide, z_in 27 (by decide +kernel)⟩
theorem q_fX4_9 : z_FL RX4 9 4 0 := ⟨RX4, TX4, 11, rfl, by decide, z_in 42 (by decide +kernel)⟩
theorem q_fX4_15 : z_FL RX4 15 4 1 := ⟨RX4, TX4, 11, rfl, by decide, z_in 45 (by decide +kernel)⟩
theorem q_fX4_19 : z_FL RX4 19 4 2 := ⟨RX4, TX4, 11, rfl, by decide, z_in 48 (by decide +kernel)⟩
theorem q_fX4_22 : z_FL RX4 22 4 3 := ⟨RX4, TX4, 11, rfl, by decide, z_in 51 (by decide +kernel)⟩
theorem q_fX4_25 : z_FL RX4 25 4 4 := ⟨RX4, TX4, 11, rfl, by decide, z_in 53 (by decide +kernel)⟩
theorem q_fX4_28 : z_FL RX4 28 4 5 := ⟨RX4, TX4, 11, rfl, by decide, z_in 56 (by decide +kernel)⟩
theorem q_fX4_31 : z_FL RX4 31 4 6 := ⟨RX4, TX4, 11, rfl, by decide, z_in 59 (by decide +kernel)⟩
theorem q_fX4_34 : z_FL RX4 34 4 7 := ⟨RX4, TX4, 11, rfl, by decide, z_in 61 (by decide +kernel)⟩
theorem q_fX4_37 : z_FL RX4 37 4 8 := ⟨RX4, TX4, 11, rfl, by decide, z_in 63 (by decide +kernel)⟩
theorem q_fX4_40 : z_FL RX4 40 4 9 := ⟨RX4, TX4, 11, rfl, by decide, z_in 65 (by decide +kernel)⟩
theorem q_fX4_43 : z_FL RX4 43 4 10 := ⟨RX4, TX4, 11, rfl, by decide, z_in 66 (by decide +kernel)⟩
theorem q_fX4_46 : z_FL RX4 46 3 1 := ⟨RX3, TX3, 2, rfl, by decide, z_in 29 (by decide +kernel)⟩
theorem q_fX4_51 : z_FL RX4 51 3 0 := ⟨RX3, TX3, 2, rfl, by decide, z_in 26 (by decide +kernel)⟩
theorem q_fX5_9 : z_FL RX5 9 5 0 := ⟨RX5, TX5, 3, rfl, by decide, z_in 151 (by decide +kernel)⟩
theorem q_fX5_15 : z_FL RX5 15 5 1 := ⟨RX5, TX5, 3, rfl, by decide, z_in 152 (by decide +kernel)⟩
theorem q_fX5_19 : z_FL RX5 19 5 2 := ⟨RX5, TX5, 3, rfl, by decide, z_in 153 (by decide +kernel)⟩
theorem q_fX7_7 : z_FL RX7 7 7 3 := ⟨RX7, TX7, 32, rfl, by decide, z_in 567 (by decide +kernel)⟩
theorem q_fX7_13 : z_FL RX7 13 7 4 := ⟨RX7, TX7, 32, rfl, by decide, z_in 568 (by decide +kernel)⟩
theorem q_fX7_16 : z_FL RX7 16 7 5 := ⟨RX7, TX7, 32, rfl, by decide, z_in 569 (by decide +kernel)⟩
theorem q_fX7_19 : z_FL RX7 19 7 6 := ⟨RX7, TX7, 32, rfl, by decide, z_in 570 (by decide +kernel)⟩
theorem q_fX7_22 : z_FL RX7 22 7 7 := ⟨RX7, TX7, 32, rfl, by decide, z_in 571 (by decide +kernel)⟩
theorem q_fX7_25 : z_FL RX7 25 7 8 := ⟨RX7, TX7, 32, rfl, by decide, z_in 572 (by decide +kernel)⟩
theorem q_fX7_28 : z_FL RX7 28 7 9 := ⟨RX7, TX7, 32, rfl, by decide, z_in 573 (by decide +kernel)⟩
theorem q_fX7_31 : z_FL RX7 31 7 10 := ⟨RX7, TX7, 32, rfl, by decide, z_in 574 (by decide +kernel)⟩
theorem q_fX7_34 : z_FL RX7 34 7 11 := ⟨RX7, TX7, 32, rfl, by decide, z_in 575 (by decide +kernel)⟩
theorem q_fX7_37 : z_FL RX7 37 7 12 := ⟨RX7, TX7, 32, rfl, by decide, z_in 576 (by decide +kernel)⟩
theorem q_fX7_40 : z_FL RX7 40 7 13 := ⟨RX7, TX7, 32, rfl, by decide, z_in 577 (by decide +kernel)⟩
theorem q_fX7_43 : z_FL RX7 43 7 14 := ⟨RX7, TX7, 32, rfl, by decide, z_in 578 (by decide +kernel)⟩
theorem q_fX7_46 : z_FL RX7 46 7 18 := ⟨RX7, TX7, 32, rfl, by decide, z_in 582 (by decide +kernel)⟩
theorem q_fX7_49 : z_FL RX7 49 7 22 := ⟨RX7, TX7, 32, rfl, by decide, z_in 586 (by decide +kernel)⟩
theorem q_fX7_52 : z_FL RX7 52 7 25 := ⟨RX7, TX7, 32, rfl, by decide, z_in 589 (by decide +kernel)⟩
theorem q_fX7_55 : z_FL RX7 55 7 27 := ⟨RX7, TX7, 32, rfl, by decide, z_in 591 (by decide +kernel)⟩
theorem q_fX7_58 : z_FL RX7 58 7 28 := ⟨RX7, TX7, 32, rfl, by decide, z_in 592 (by decide +kernel)⟩
theorem q_fX7_61 : z_FL RX7 61 7 30 := ⟨RX7, TX7, 32, rfl, by decide, z_in 594 (by decide +kernel)⟩
theorem q_fX7_65 : z_FL RX7 65 7 31 := ⟨RX7, TX7, 32, rfl, by decide, z_in 595 (by decide +kernel)⟩
theorem q_fX7_74 : z_FL RX7 74 7 19 := ⟨RX7, TX7, 32, rfl, by decide, z_in 583 (by decide +kernel)⟩
theorem q_fX7_78 : z_FL RX7 78 7 21 := ⟨RX7, TX7, 32, rfl, by decide, z_in 585 (by decide +kernel)⟩
theorem q_fX7_81 : z_FL RX7 81 7 20 := ⟨RX7, TX7, 32, rfl, by decide, z_in 584 (by decide +kernel)⟩
theorem q_fX7_84 : z_FL RX7 84 7 15 := ⟨RX7, TX7, 32, rfl, by decide, z_in 579 (by decide +kernel)⟩
theorem q_fX7_87 : z_FL RX7 87 7 16 := ⟨RX7, TX7, 32, rfl, by decide, z_in 580 (by decide +kernel)⟩
theorem q_fX7_90 : z_FL RX7 90 7 17 := ⟨RX7, TX7, 32, rfl, by decide, z_in 581 (by decide +kernel)⟩
theorem q_fX7_105 : z_FL RX7 105 7 0 := ⟨RX7, TX7, 32, rfl, by decide, z_in 564 (by decide +kernel)⟩
theorem q_fX7_108 : z_FL RX7 108 7 1 := ⟨RX7, TX7, 32, rfl, by decide, z_in 565 (by decide +kernel)⟩
theorem q_fX7_111 : z_FL RX7 111 7 2 := ⟨RX7, TX7, 32, rfl, by decide, z_in 566 (by decide +kernel)⟩
theorem q_fX7_114 : z_FL RX7 114 7 23 := ⟨RX7, TX7, 32, rfl, by decide, z_in 587 (by decide +kernel)⟩
theorem q_fX7_153 : z_FL RX7 153 7 24 := ⟨RX7, TX7, 32, rfl, by decide, z_in 588 (by decide +kernel)⟩
theorem q_fX7_196 : z_FL RX7 196 7 26 := ⟨RX7, TX7, 32, rfl, by decide, z_in 590 (by decide +kernel)⟩
theorem q_fX7_221 : z_FL RX7 221 7 29 := ⟨RX7, TX7, 32, rfl, by decide, z_in 593 (by decide +kernel)⟩
theorem q_p0_1 : z_FP 0 1 "I" = true := by decide +kernel
theorem q_p0_2 : z_FP 0 2 "I" = true := by decide +kernel
theorem q_p2_0 : z_FP 2 0 "I" = true := by decide +kernel
theorem q_p2_2 : z_FP 2 2 "I" = true := by decide +kernel
theorem q_p3_1 : z_FP 3 1 "I" = true := by decide +kernel
theorem q_p4_0 : z_FP 4 0 "I" = true := by decide +kernel
theorem q_p4_5 : z_FP 4 5 "I" = true := by decide +kernel
theorem q_p4_8 : z_FP 4 8 "I" = true := by decide +kernel
theorem q_p5_2 : z_FP 5 2 "I" = true := by decide +kernel
theorem q_p6_11 : z_FP 6 11 "J" = true := by decide +kernel
theorem q_p7_0 : z_FP 7 0 "I" = true := by decide +kernel
theorem q_p7_1 : z_FP 7 1 "I" = true := by decide +kernel
theorem q_p7_2 : z_FP 7 2 "I" = true := by decide +kernel
theorem q_p7_15 : z_FP 7 15 "I" = true := by decide +kernel
theorem q_p7_16 : z_FP 7 16 "I" = true := by decide +kernel
theorem q_p7_17 : z_FP 7 17 "I" = true := by decide +kernel
theorem q_p7_19 : z_FP 7 19 "I" = true := by decide +kernel
theorem q_p7_20 : z_FP 7 20 "I" = true := by decide +kernel
theorem q_p7_21 : z_FP 7 21 "I" = true := by decide +kernel
theorem q_p7_23 : z_FP 7 23 "I" = true := by decide +kernel
theorem q_p7_24 : z_FP 7 24 "I" = true := by decide +kernel
theorem q_p7_26 : z_FP 7 26 "I" = true := by decide +kernel
theorem q_p7_29 : z_FP 7 29 "J" = true := by decide +kernel
theorem q_sX6_202 : Cond.fieldLink RX6 202 "SafetyPins" "THOUSANDS" "[J" ∈ z_tb := z_in 445 (by decide +kernel)
theorem q_sX6_226 : Cond.fieldLink RX6 226 "SafetyPins" "FACTORIALS" "[I" ∈ z_tb := z_in 497 (by decide +kernel)
theorem q_cX6_79 (lv : Nat) (h : 1 ≤ lv) : z_CV RX6 lv 79 mX3_add RX3 1 := ⟨⟨z_in 204 (by decide +kernel), z_in 205 (by decide +kernel), z_in 206 (by decide +kernel), z_in 2 (by decide +kernel), z_in 207 (by decide +kernel)⟩, ⟨rfl, by decide +kernel, by decide +kernel, by decide +kernel⟩, ⟨h, by show 8 + (2 + 11) + 36 * 0 ≤ 36 * lv; omega⟩⟩
theorem q_cX6_83 (lv : Nat) (h : 3 ≤ lv) : z_CV RX6 lv 83 mX3_firstFault RX3 0 := ⟨⟨z_in 216 (by decide +kernel), z_in 217 (by decide +kernel), z_in 218 (by decide +kernel), z_in 2 (by decide +kernel), z_in 219 (by decide +kernel)⟩, ⟨rfl, by decide +kernel, by decide +kernel, by decide +kernel⟩, ⟨h, by show 8 + (3 + 11) + 36 * 2 ≤ 36 * lv; omega⟩⟩
theorem q_cX6_87 (lv : Nat) (h : 3 ≤ lv) : z_CV RX6 lv 87 mX4_readFrom RX4 1 := ⟨⟨z_in 242 (by decide +kernel), z_in 243 (by decide +kernel), z_in 244 (by decide +kernel), z_in 3 (by decide +kernel), z_in 245 (by decide +kernel)⟩, ⟨rfl, by decide +kernel, by decide +kernel, by decide +kernel⟩, ⟨h, by show 8 + (4 + 11) + 36 * 2 ≤ 36 * lv; omega⟩⟩
theorem q_cX6_91 (lv : Nat) (h : 1 ≤ lv) : z_CV RX6 lv 91 mX2_begin RX2 0 := ⟨⟨z_in 251 (by decide +kernel), z_in 252 (by decide +kernel), z_in 253 (by decide +kernel), z_in 5 (by decide +kernel), z_in 254 (by decide +kernel)⟩, ⟨rfl, by decide +kernel, by decide +kernel, by decide +kernel⟩, ⟨h, by show 8 + (2 + 11) + 36 * 0 ≤ 36 * lv; omega⟩⟩
theorem q_cX6_94 (lv : Nat) (h : 1 ≤ lv) : z_CV RX6 lv 94 mX0_forget RX0 0 := ⟨⟨z_in 255 (by decide +kernel), z_in 256 (by decide +kernel), z_in 257 (by decide +kernel), z_in 6 (by decide +kernel), z_in 258 (by decide +kernel)⟩, ⟨rfl, by decide +kernel, by decide +kernel, by decide +kernel⟩, ⟨h, by show 8 + (1 + 11) + 36 * 0 ≤ 36 * lv; omega⟩⟩
theorem q_cX6_106 (lv : Nat) (h : 1 ≤ lv) : z_CV RX6 lv 106 mX6_isPin RX6 1 := ⟨⟨z_in 263 (by decide +kernel), z_in 265 (by decide +kernel), z_inp 3 (q := (yX6_isPin, 12)) (by decide +kernel), z_in 1 (by decide +kernel), z_in 266 (by decide +kernel)⟩, ⟨rfl, by decide +kernel, by decide +kernel, by decide +kernel⟩, ⟨h, by show 8 + (2 + 11) + 36 * 0 ≤ 36 * lv; omega⟩⟩
theorem q_cX6_125 (lv : Nat) (h : 2 ≤ lv) : z_CV RX6 lv 125 mX4_holds RX4 2 := ⟨⟨z_in 267 (by decide +kernel), z_in 268 (by decide +kernel), z_in 269 (by decide +kernel), z_in 3 (by decide +kernel), z_in 270 (by decide +kernel)⟩, ⟨rfl, by decide +kernel, by decide +kernel, by decide +kernel⟩, ⟨h, by show 8 + (3 + 11) + 36 * 1 ≤ 36 * lv; omega⟩⟩
theorem q_cX6_129 (lv : Nat) (h : 1 ≤ lv) : z_CV RX6 lv 129 mX2_isOpen RX2 1 := ⟨⟨z_in 274 (by decide +kernel), z_in 275 (by decide +kernel), z_in 276 (by decide +kernel), z_in 5 (by decide +kernel), z_in 277 (by decide +kernel)⟩, ⟨rfl, by decide +kernel, by decide +kernel, by decide +kernel⟩, ⟨h, by show 8 + (2 + 11) + 36 * 0 ≤ 36 * lv; omega⟩⟩
theorem q_cX6_132 (lv : Nat) (h : 1 ≤ lv) : z_CS RX6 lv 132 mX6_isThing 1 := ⟨⟨z_in 282 (by decide +kernel), z_in 283 (by decide +kernel), z_in 1 (by decide +kernel), z_in 284 (by decide +kernel)⟩, ⟨by decide +kernel, by decide +kernel, by decide +kernel⟩, ⟨h, by show 8 + (1 + 11) + 36 * 0 ≤ 36 * lv; omega⟩⟩
theorem q_cX6_138 (lv : Nat) (h : 2 ≤ lv) : z_CV RX6 lv 138 mX4_reach RX4 2 := ⟨⟨z_in 285 (by decide +kernel), z_in 286 (by decide +kernel), z_in 287 (by decide +kernel), z_in 3 (by decide +kernel), z_in 288 (by decide +kernel)⟩, ⟨rfl, by decide +kernel, by decide +kernel, by decide +kernel⟩, ⟨h, by show 8 + (6 + 11) + 36 * 1 ≤ 36 * lv; omega⟩⟩
theorem q_cX6_141 (lv : Nat) (h : 2 ≤ lv) : z_CV RX6 lv 141 mX0_remember RX0 1 := ⟨⟨z_in 297 (by decide +kernel), z_in 298 (by decide +kernel), z_in 299 (by decide +kernel), z_in 6 (by decide +kernel), z_in 300 (by decide +kernel)⟩, ⟨rfl, by decide +kernel, by decide +kernel, by decide +kernel⟩, ⟨h, by show 8 + (2 + 11) + 36 * 1 ≤ 36 * lv; omega⟩⟩
theorem q_cX6_145 (lv : Nat) (h : 5 ≤ lv) : z_CV RX6 lv 145 mX1_passDay RX1 1 := ⟨⟨z_in 308 (by decide +kernel), z_in 309 (by decide +kernel), z_in 310 (by decide +kernel), z_in 4 (by decide +kernel), z_in 311 (by decide +kernel)⟩, ⟨rfl, by decide +kernel, by decide +kernel, by decide +kernel⟩, ⟨h, by show 8 + (3 + 11) + 36 * 4 ≤ 36 * lv; omega⟩⟩
theorem q_cX6_149 (lv : Nat) (h : 5 ≤ lv) : z_CV RX6 lv 149 mX1_pullAt RX1 3 := ⟨⟨z_in 359 (by decide +kernel), z_in 360 (by decide +kernel), z_in 361 (by decide +kernel), z_in 4 (by decide +kernel), z_in 362 (by decide +kernel)⟩, ⟨rfl, by decide +kernel, by decide +kernel, by decide +kernel⟩, ⟨h, by show 8 + (4 + 11) + 36 * 4 ≤ 36 * lv; omega⟩⟩
theorem q_cX6_153 (lv : Nat) (h : 1 ≤ lv) : z_CV RX6 lv 153 mX2_close RX2 1 := ⟨⟨z_in 367 (by decide +kernel), z_in 368 (by decide +kernel), z_in 369 (by decide +kernel), z_in 5 (by decide +kernel), z_in 370 (by decide +kernel)⟩, ⟨rfl, by decide +kernel, by decide +kernel, by decide +kernel⟩, ⟨h, by show 8 + (2 + 11) + 36 * 0 ≤ 36 * lv; omega⟩⟩
theorem q_cX6_156 (lv : Nat) (h : 1 ≤ lv) : z_CS RX6 lv 156 mJ6_bitCount_0f7a4 1 := ⟨⟨z_in 371 (by decide +kernel), z_in 332 (by decide +kernel), z_in 10 (by decide +kernel), z_in 333 (by decide +kernel)⟩, ⟨by decide +kernel, by decide +kernel, by decide +kernel⟩, ⟨h, by show 8 + (1 + 11) + 36 * 0 ≤ 36 * lv; omega⟩⟩
theorem q_cX6_162 (lv : Nat) (h : 1 ≤ lv) : z_CV RX6 lv 162 mX2_unpin RX2 1 := ⟨⟨z_in 376 (by decide +kernel), z_in 377 (by decide +kernel), z_in 378 (by decide +kernel), z_in 5 (by decide +kernel), z_in 379 (by decide +kernel)⟩, ⟨rfl, by decide +kernel, by decide +kernel, by decide +kernel⟩, ⟨h, by show 8 + (2 + 11) + 36 * 0 ≤ 36 * lv; omega⟩⟩
theorem q_cX6_166 (lv : Nat) (h : 2 ≤ lv) : z_CV RX6 lv 166 mX0_takeBack RX0 1 := ⟨⟨z_in 384 (by decide +kernel), z_in 385 (by decide +kernel), z_in 386 (by decide +kernel), z_in 6 (by decide +kernel), z_in 387 (by decide +kernel)⟩, ⟨rfl, by decide +kernel, by decide +kernel, by decide +kernel⟩, ⟨h, by show 8 + (2 + 11) + 36 * 1 ≤ 36 * lv; omega⟩⟩
theorem q_cX6_169 (lv : Nat) (h : 1 ≤ lv) : z_CV RX6 lv 169 mX2_become RX2 1 := ⟨⟨z_in 392 (by decide +kernel), z_in 302 (by decide +kernel), z_in 303 (by decide +kernel), z_in 5 (by decide +kernel), z_in 304 (by decide +kernel)⟩, ⟨rfl, by decide +kernel, by decide +kernel, by decide +kernel⟩, ⟨h, by show 8 + (3 + 11) + 36 * 0 ≤ 36 * lv; omega⟩⟩
theorem q_cX6_172 (lv : Nat) (h : 1 ≤ lv) : z_CV RX6 lv 172 mX1_clear RX1 0 := ⟨⟨z_in 401 (by decide +kernel), z_in 317 (by decide +kernel), z_in 318 (by decide +kernel), z_in 4 (by decide +kernel), z_in 319 (by decide +kernel)⟩, ⟨rfl, by decide +kernel, by decide +kernel, by decide +kernel⟩, ⟨h, by show 8 + (2 + 11) + 36 * 0 ≤ 36 * lv; omega⟩⟩
theorem q_cX6_175 (lv : Nat) (h : 1 ≤ lv) : z_CV RX6 lv 175 mX1_burdenEnds RX1 1 := ⟨⟨z_in 402 (by decide +kernel), z_in 348 (by decide +kernel), z_in 349 (by decide +kernel), z_in 4 (by decide +kernel), z_in 350 (by decide +kernel)⟩, ⟨rfl, by decide +kernel, by decide +kernel, by decide +kernel⟩, ⟨h, by show 8 + (2 + 11) + 36 * 0 ≤ 36 * lv; omega⟩⟩
theorem q_cX6_178 (lv : Nat) (h : 4 ≤ lv) : z_CV RX6 lv 178 mX1_ping RX1 1 := ⟨⟨z_in 403 (by decide +kernel), z_in 328 (by decide +kernel), z_in 329 (by decide +kernel), z_in 4 (by decide +kernel), z_in 330 (by decide +kernel)⟩, ⟨rfl, by decide +kernel, by decide +kernel, by decide +kernel⟩, ⟨h, by show 8 + (6 + 11) + 36 * 3 ≤ 36 * lv; omega⟩⟩
theorem q_cX6_181 (lv : Nat) (h : 2 ≤ lv) : z_CS RX6 lv 181 mX6_refusalOfTwo 2 := ⟨⟨z_in 408 (by decide +kernel), z_in 409 (by decide +kernel), z_in 1 (by decide +kernel), z_in 410 (by decide +kernel)⟩, ⟨by decide +kernel, by decide +kernel, by decide +kernel⟩, ⟨h, by show 8 + (2 + 11) + 36 * 1 ≤ 36 * lv; omega⟩⟩
theorem q_cX6_184 (lv : Nat) (h : 1 ≤ lv) : z_CV RX6 lv 184 mX4_allPins RX4 0 := ⟨⟨z_in 411 (by decide +kernel), z_in 412 (by decide +kernel), z_in 413 (by decide +kernel), z_in 3 (by decide +kernel), z_in 414 (by decide +kernel)⟩, ⟨rfl, by decide +kernel, by decide +kernel, by decide +kernel⟩, ⟨h, by show 8 + (1 + 11) + 36 * 0 ≤ 36 * lv; omega⟩⟩
theorem q_cX6_187 (lv : Nat) (h : 2 ≤ lv) : z_CV RX6 lv 187 mX6_isBetterCut RX6 2 := ⟨⟨z_in 415 (by decide +kernel), z_in 417 (by decide +kernel), z_inp 8 (q := (yX6_isBetterCut, 12)) (by decide +kernel), z_in 1 (by decide +kernel), z_in 418 (by decide +kernel)⟩, ⟨rfl, by decide +kernel, by decide +kernel, by decide +kernel⟩, ⟨h, by show 8 + (4 + 11) + 36 * 1 ≤ 36 * lv; omega⟩⟩
theorem q_cX6_191 (lv : Nat) (h : 3 ≤ lv) : z_CV RX6 lv 191 mX4_areTogether RX4 3 := ⟨⟨z_in 419 (by decide +kernel), z_in 420 (by decide +kernel), z_in 421 (by decide +kernel), z_in 3 (by decide +kernel), z_in 422 (by decide +kernel)⟩, ⟨rfl, by decide +kernel, by decide +kernel, by decide +kernel⟩, ⟨h, by show 8 + (4 + 11) + 36 * 2 ≤ 36 * lv; omega⟩⟩
theorem q_cX6_195 (lv : Nat) (h : 6 ≤ lv) : z_CV RX6 lv 195 mX6_firstThatParts RX6 3 := ⟨⟨z_in 428 (by decide +kernel), z_in 430 (by decide +kernel), z_inp 9 (q := (yX6_firstThatParts, 12)) (by decide +kernel), z_in 1 (by decide +kernel), z_in 431 (by decide +kernel)⟩, ⟨rfl, by decide +kernel, by decide +kernel, by decide +kernel⟩, ⟨h, by show 8 + (5 + 11) + 36 * 5 ≤ 36 * lv; omega⟩⟩
theorem q_cX6_199 (lv : Nat) (h : 4 ≤ lv) : z_CV RX6 lv 199 mX4_doable RX4 1 := ⟨⟨z_in 436 (by decide +kernel), z_in 437 (by decide +kernel), z_in 438 (by decide +kernel), z_in 3 (by decide +kernel), z_in 439 (by decide +kernel)⟩, ⟨rfl, by decide +kernel, by decide +kernel, by decide +kernel⟩, ⟨h, by show 8 + (4 + 11) + 36 * 3 ≤ 36 * lv; omega⟩⟩
theorem q_cX6_208 (lv : Nat) (h : 6 ≤ lv) : z_CV RX6 lv 208 mX6_comesTrue RX6 3 := ⟨⟨z_in 448 (by decide +kernel), z_in 450 (by decide +kernel), z_inp 10 (q := (yX6_comesTrue, 12)) (by decide +kernel), z_in 1 (by decide +kernel), z_in 451 (by decide +kernel)⟩, ⟨rfl, by decide +kernel, by decide +kernel, by decide +kernel⟩, ⟨h, by show 8 + (4 + 11) + 36 * 5 ≤ 36 * lv; omega⟩⟩
theorem q_cX6_212 (lv : Nat) (h : 1 ≤ lv) : z_CV RX6 lv 212 mX5_add RX5 2 := ⟨⟨z_in 464 (by decide +kernel), z_in 465 (by decide +kernel), z_in 466 (by decide +kernel), z_in 7 (by decide +kernel), z_in 467 (by decide +kernel)⟩, ⟨rfl, by decide +kernel, by decide +kernel, by decide +kernel⟩, ⟨h, by show 8 + (3 + 11) + 36 * 0 ≤ 36 * lv; omega⟩⟩
theorem q_cX6_215 (lv : Nat) (h : 1 ≤ lv) : z_CV RX6 lv 215 mX5_agreeWith RX5 2 := ⟨⟨z_in 476 (by decide +kernel), z_in 477 (by decide +kernel), z_in 478 (by decide +kernel), z_in 7 (by decide +kernel), z_in 479 (by decide +kernel)⟩, ⟨rfl, by decide +kernel, by decide +kernel, by decide +kernel⟩, ⟨h, by show 8 + (5 + 11) + 36 * 0 ≤ 36 * lv; omega⟩⟩
theorem q_cX6_218 (lv : Nat) (h : 3 ≤ lv) : z_CS RX6 lv 218 mX6_inLeastTerms 3 := ⟨⟨z_in 484 (by decide +kernel), z_in 485 (by decide +kernel), z_in 1 (by decide +kernel), z_in 486 (by decide +kernel)⟩, ⟨by decide +kernel, by decide +kernel, by decide +kernel⟩, ⟨h, by show 8 + (7 + 11) + 36 * 2 ≤ 36 * lv; omega⟩⟩
theorem q_cX6_222 (lv : Nat) (h : 4 ≤ lv) : z_CV RX6 lv 222 mX6_pairsBroughtInAllOrders RX6 3 := ⟨⟨z_in 493 (by decide +kernel), z_in 495 (by decide +kernel), z_inp 13 (q := (yX6_pairsBroughtInAllOrders, 12)) (by decide +kernel), z_in 1 (by decide +kernel), z_in 496 (by decide +kernel)⟩, ⟨rfl, by decide +kernel, by decide +kernel, by decide +kernel⟩, ⟨h, by show 8 + (11 + 11) + 36 * 3 ≤ 36 * lv; omega⟩⟩
theorem q_cX6_229 (lv : Nat) (h : 5 ≤ lv) : z_CV RX6 lv 229 mX6_reckonGains RX6 2 := ⟨⟨z_in 508 (by decide +kernel), z_in 510 (by decide +kernel), z_inp 14 (q := (yX6_reckonGains, 12)) (by decide +kernel), z_in 1 (by decide +kernel), z_in 511 (by decide +kernel)⟩, ⟨rfl, by decide +kernel, by decide +kernel, by decide +kernel⟩, ⟨h, by show 8 + (6 + 11) + 36 * 4 ≤ 36 * lv; omega⟩⟩
theorem q_cX6_233 (lv : Nat) (h : 1 ≤ lv) : z_CV RX6 lv 233 mX6_isAtRest RX6 2 := ⟨⟨z_in 517 (by decide +kernel), z_in 519 (by decide +kernel), z_inp 16 (q := (yX6_isAtRest, 12)) (by decide +kernel), z_in 1 (by decide +kernel), z_in 520 (by decide +kernel)⟩, ⟨rfl, by decide +kernel, by decide +kernel, by decide +kernel⟩, ⟨h, by show 8 + (5 + 11) + 36 * 0 ≤ 36 * lv; omega⟩⟩
theorem q_cX6_236 (lv : Nat) (h : 1 ≤ lv) : z_CS RX6 lv 236 mX6_power 2 := ⟨⟨z_in 525 (by decide +kernel), z_in 526 (by decide +kernel), z_in 1 (by decide +kernel), z_in 527 (by decide +kernel)⟩, ⟨by decide +kernel, by decide +kernel, by decide +kernel⟩, ⟨h, by show 8 + (5 + 11) + 36 * 0 ≤ 36 * lv; omega⟩⟩
theorem q_cX6_244 (lv : Nat) (h : 6 ≤ lv) : z_CV RX6 lv 244 mX6_passSeason RX6 1 := ⟨⟨z_in 538 (by decide +kernel), z_in 540 (by decide +kernel), z_inp 17 (q := (yX6_passSeason, 12)) (by decide +kernel), z_in 1 (by decide +kernel), z_in 541 (by decide +kernel)⟩, ⟨rfl, by decide +kernel, by decide +kernel, by decide +kernel⟩, ⟨h, by show 8 + (2 + 11) + 36 * 5 ≤ 36 * lv; omega⟩⟩
theorem q_cX6_250 (lv : Nat) (h : 3 ≤ lv) : z_CV RX6 lv 250 mX4_pairsTogether RX4 1 := ⟨⟨z_in 499 (by decide +kernel), z_in 500 (by decide +kernel), z_in 501 (by decide +kernel), z_in 3 (by decide +kernel), z_in 502 (by decide +kernel)⟩, ⟨rfl, by decide +kernel, by decide +kernel, by decide +kernel⟩, ⟨h, by show 8 + (4 + 11) + 36 * 2 ≤ 36 * lv; omega⟩⟩
theorem q_cX6_253 (lv : Nat) (h : 1 ≤ lv) : z_CV RX6 lv 253 mX2_wearOfAll RX2 0 := ⟨⟨z_in 554 (by decide +kernel), z_in 555 (by decide +kernel), z_in 556 (by decide +kernel), z_in 5 (by decide +kernel), z_in 557 (by decide +kernel)⟩, ⟨rfl, by decide +kernel, by decide +kernel, by decide +kernel⟩, ⟨h, by show 8 + (3 + 11) + 36 * 0 ≤ 36 * lv; omega⟩⟩
theorem q_cX6_256 (lv : Nat) (h : 2 ≤ lv) : z_CV RX6 lv 256 mX6_closesInThought RX6 1 := ⟨⟨z_in 452 (by decide +kernel), z_in 454 (by decide +kernel), z_inp 11 (q := (yX6_closesInThought, 12)) (by decide +kernel), z_in 1 (by decide +kernel), z_in 455 (by decide +kernel)⟩, ⟨rfl, by decide +kernel, by decide +kernel, by decide +kernel⟩, ⟨h, by show 8 + (2 + 11) + 36 * 1 ≤ 36 * lv; omega⟩⟩
theorem q_cX6_259 (lv : Nat) (h : 2 ≤ lv) : z_CV RX6 lv 259 mX6_unpinsInThought RX6 1 := ⟨⟨z_in 456 (by decide +kernel), z_in 458 (by decide +kernel), z_inp 12 (q := (yX6_unpinsInThought, 12)) (by decide +kernel), z_in 1 (by decide +kernel), z_in 459 (by decide +kernel)⟩, ⟨rfl, by decide +kernel, by decide +kernel, by decide +kernel⟩, ⟨h, by show 8 + (2 + 11) + 36 * 1 ≤ 36 * lv; omega⟩⟩
theorem q_cX6_262 (lv : Nat) (h : 1 ≤ lv) : z_CV RX6 lv 262 mX1_burden RX1 2 := ⟨⟨z_in 512 (by decide +kernel), z_in 324 (by decide +kernel), z_in 325 (by decide +kernel), z_in 4 (by decide +kernel), z_in 326 (by decide +kernel)⟩, ⟨rfl, by decide +kernel, by decide +kernel, by decide +kernel⟩, ⟨h, by show 8 + (3 + 11) + 36 * 0 ≤ 36 * lv; omega⟩⟩
theorem q_cX6_265 (lv : Nat) (h : 3 ≤ lv) : z_CV RX6 lv 265 mX6_priceOfBeingAlone RX6 1 := ⟨⟨z_in 513 (by decide +kernel), z_in 515 (by decide +kernel), z_inp 15 (q := (yX6_priceOfBeingAlone, 12)) (by decide +kernel), z_in 1 (by decide +kernel), z_in 516 (by decide +kernel)⟩, ⟨rfl, by decide +kernel, by decide +kernel, by decide +kernel⟩, ⟨h, by show 8 + (2 + 11) + 36 * 2 ≤ 36 * lv; omega⟩⟩
theorem q_cX6_268 (lv : Nat) (h : 2 ≤ lv) : z_CS RX6 lv 268 mX6_commonDivisor 2 := ⟨⟨z_in 487 (by decide +kernel), z_in 488 (by decide +kernel), z_in 1 (by decide +kernel), z_in 489 (by decide +kernel)⟩, ⟨by decide +kernel, by decide +kernel, by decide +kernel⟩, ⟨h, by show 8 + (11 + 11) + 36 * 1 ≤ 36 * lv; omega⟩⟩
theorem q_cX6_272 (lv : Nat) (h : 1 ≤ lv) : z_CS RX6 lv 272 mJ9_max_f86c9 2 := ⟨⟨z_in 490 (by decide +kernel), z_in 491 (by decide +kernel), z_in 9 (by decide +kernel), z_in 492 (by decide +kernel)⟩, ⟨by decide +kernel, by decide +kernel, by decide +kernel⟩, ⟨h, by show 8 + (4 + 11) + 36 * 0 ≤ 36 * lv; omega⟩⟩
theorem q_cX0_25 (lv : Nat) (h : 1 ≤ lv) : z_CV RX0 lv 25 mX2_become RX2 1 := ⟨⟨z_in 301 (by decide +kernel), z_in 302 (by decide +kernel), z_in 303 (by decide +kernel), z_in 5 (by decide +kernel), z_in 304 (by decide +kernel)⟩, ⟨rfl, by decide +kernel, by decide +kernel, by decide +kernel⟩, ⟨h, by show 8 + (3 + 11) + 36 * 0 ≤ 36 * lv; omega⟩⟩
theorem q_cX0_29 (lv : Nat) (h : 1 ≤ lv) : z_CS RX0 lv 29 mJ9_min_7cf53 2 := ⟨⟨z_in 305 (by decide +kernel), z_in 306 (by decide +kernel), z_in 9 (by decide +kernel), z_in 307 (by decide +kernel)⟩, ⟨by decide +kernel, by decide +kernel, by decide +kernel⟩, ⟨h, by show 8 + (2 + 11) + 36 * 0 ≤ 36 * lv; omega⟩⟩
theorem q_cX1_33 (lv : Nat) (h : 1 ≤ lv) : z_CS RX1 lv 33 mJ6_bitCount_0f7a4 1 := ⟨⟨z_in 331 (by decide +kernel), z_in 332 (by decide +kernel), z_in 10 (by decide +kernel), z_in 333 (by decide +kernel)⟩, ⟨by decide +kernel, by decide +kernel, by decide +kernel⟩, ⟨h, by show 8 + (1 + 11) + 36 * 0 ≤ 36 * lv; omega⟩⟩
theorem q_cX1_42 (lv : Nat) (h : 3 ≤ lv) : z_CV RX1 lv 42 mX1_givingNow RX1 1 := ⟨⟨z_in 337 (by decide +kernel), z_in 339 (by decide +kernel), z_inp 5 (q := (yX1_givingNow, 2)) (by decide +kernel), z_in 4 (by decide +kernel), z_in 340 (by decide +kernel)⟩, ⟨rfl, by decide +kernel, by decide +kernel, by decide +kernel⟩, ⟨h, by show 8 + (4 + 11) + 36 * 2 ≤ 36 * lv; omega⟩⟩
theorem q_cX1_46 (lv : Nat) (h : 1 ≤ lv) : z_CV RX1 lv 46 mX1_burdenEnds RX1 1 := ⟨⟨z_in 347 (by decide +kernel), z_in 348 (by decide +kernel), z_in 349 (by decide +kernel), z_in 4 (by decide +kernel), z_in 350 (by decide +kernel)⟩, ⟨rfl, by decide +kernel, by decide +kernel, by decide +kernel⟩, ⟨h, by show 8 + (2 + 11) + 36 * 0 ≤ 36 * lv; omega⟩⟩
theorem q_cX1_50 (lv : Nat) (h : 1 ≤ lv) : z_CV RX1 lv 50 mX2_isOpen RX2 1 := ⟨⟨z_in 341 (by decide +kernel), z_in 275 (by decide +kernel), z_in 276 (by decide +kernel), z_in 5 (by decide +kernel), z_in 277 (by decide +kernel)⟩, ⟨rfl, by decide +kernel, by decide +kernel, by decide +kernel⟩, ⟨h, by show 8 + (2 + 11) + 36 * 0 ≤ 36 * lv; omega⟩⟩
theorem q_cX1_54 (lv : Nat) (h : 1 ≤ lv) : z_CV RX1 lv 54 mX1_loadOf RX1 1 := ⟨⟨z_in 342 (by decide +kernel), z_in 344 (by decide +kernel), z_inp 6 (q := (yX1_loadOf, 2)) (by decide +kernel), z_in 4 (by decide +kernel), z_in 345 (by decide +kernel)⟩, ⟨rfl, by decide +kernel, by decide +kernel, by decide +kernel⟩, ⟨h, by show 8 + (2 + 11) + 36 * 0 ≤ 36 * lv; omega⟩⟩
theorem q_cX1_60 (lv : Nat) (h : 2 ≤ lv) : z_CV RX1 lv 60 mX4_holds RX4 2 := ⟨⟨z_in 346 (by decide +kernel), z_in 268 (by decide +kernel), z_in 269 (by decide +kernel), z_in 3 (by decide +kernel), z_in 270 (by decide +kernel)⟩, ⟨rfl, by decide +kernel, by decide +kernel, by decide +kernel⟩, ⟨h, by show 8 + (3 + 11) + 36 * 1 ≤ 36 * lv; omega⟩⟩
theorem q_cX1_64 (lv : Nat) (h : 1 ≤ lv) : z_CV RX1 lv 64 mX1_clear RX1 0 := ⟨⟨z_in 316 (by decide +kernel), z_in 317 (by decide +kernel), z_in 318 (by decide +kernel), z_in 4 (by decide +kernel), z_in 319 (by decide +kernel)⟩, ⟨rfl, by decide +kernel, by decide +kernel, by decide +kernel⟩, ⟨h, by show 8 + (2 + 11) + 36 * 0 ≤ 36 * lv; omega⟩⟩
theorem q_cX1_67 (lv : Nat) (h : 1 ≤ lv) : z_CV RX1 lv 67 mX1_burden RX1 2 := ⟨⟨z_in 323 (by decide +kernel), z_in 324 (by decide +kernel), z_in 325 (by decide +kernel), z_in 4 (by decide +kernel), z_in 326 (by decide +kernel)⟩, ⟨rfl, by decide +kernel, by decide +kernel, by decide +kernel⟩, ⟨h, by show 8 + (3 + 11) + 36 * 0 ≤ 36 * lv; omega⟩⟩
theorem q_cX1_71 (lv : Nat) (h : 4 ≤ lv) : z_CV RX1 lv 71 mX1_ping RX1 1 := ⟨⟨z_in 327 (by decide +kernel), z_in 328 (by decide +kernel), z_in 329 (by decide +kernel), z_in 4 (by decide +kernel), z_in 330 (by decide +kernel)⟩, ⟨rfl, by decide +kernel, by decide +kernel, by decide +kernel⟩, ⟨h, by show 8 + (6 + 11) + 36 * 3 ≤ 36 * lv; omega⟩⟩
theorem q_cX1_74 (lv : Nat) (h : 1 ≤ lv) : z_CV RX1 lv 74 mX1_springShut RX1 1 := ⟨⟨z_in 312 (by decide +kernel), z_in 314 (by decide +kernel), z_inp 4 (q := (yX1_springShut, 2)) (by decide +kernel), z_in 4 (by decide +kernel), z_in 315 (by decide +kernel)⟩, ⟨rfl, by decide +kernel, by decide +kernel, by decide +kernel⟩, ⟨h, by show 8 + (3 + 11) + 36 * 0 ≤ 36 * lv; omega⟩⟩
theorem q_cX1_84 (lv : Nat) (h : 1 ≤ lv) : z_CS RX1 lv 84 mJ9_floorMod_7cf53 2 := ⟨⟨z_in 320 (by decide +kernel), z_in 321 (by decide +kernel), z_in 9 (by decide +kernel), z_in 322 (by decide +kernel)⟩, ⟨by decide +kernel, by decide +kernel, by decide +kernel⟩, ⟨h, by show 8 + (3 + 11) + 36 * 0 ≤ 36 * lv; omega⟩⟩
theorem q_cX1_95 (lv : Nat) (h : 2 ≤ lv) : z_CV RX1 lv 95 mX1_wearDown RX1 1 := ⟨⟨z_in 351 (by decide +kernel), z_in 353 (by decide +kernel), z_inp 7 (q := (yX1_wearDown, 2)) (by decide +kernel), z_in 4 (by decide +kernel), z_in 354 (by decide +kernel)⟩, ⟨rfl, by decide +kernel, by decide +kernel, by decide +kernel⟩, ⟨h, by show 8 + (3 + 11) + 36 * 1 ≤ 36 * lv; omega⟩⟩
theorem q_cX3_19 (lv : Nat) (h : 2 ≤ lv) : z_CV RX3 lv 19 mX3_canBegin RX3 1 := ⟨⟨z_in 220 (by decide +kernel), z_in 222 (by decide +kernel), z_inp 0 (q := (yX3_canBegin, 2)) (by decide +kernel), z_in 2 (by decide +kernel), z_in 223 (by decide +kernel)⟩, ⟨rfl, by decide +kernel, by decide +kernel, by decide +kernel⟩, ⟨h, by show 8 + (5 + 11) + 36 * 1 ≤ 36 * lv; omega⟩⟩
theorem q_cX3_23 (lv : Nat) (h : 2 ≤ lv) : z_CV RX3 lv 23 mX3_canGoOn RX3 2 := ⟨⟨z_in 230 (by decide +kernel), z_in 232 (by decide +kernel), z_inp 1 (q := (yX3_canGoOn, 2)) (by decide +kernel), z_in 2 (by decide +kernel), z_in 233 (by decide +kernel)⟩, ⟨rfl, by decide +kernel, by decide +kernel, by decide +kernel⟩, ⟨h, by show 8 + (5 + 11) + 36 * 1 ≤ 36 * lv; omega⟩⟩
theorem q_cX3_27 (lv : Nat) (h : 1 ≤ lv) : z_CS RX3 lv 27 mX3_sizeOfPart 1 := ⟨⟨z_in 224 (by decide +kernel), z_in 225 (by decide +kernel), z_in 2 (by decide +kernel), z_in 226 (by decide +kernel)⟩, ⟨by decide +kernel, by decide +kernel, by decide +kernel⟩, ⟨h, by show 8 + (1 + 11) + 36 * 0 ≤ 36 * lv; omega⟩⟩
theorem q_cX3_31 (lv : Nat) (h : 1 ≤ lv) : z_CS RX3 lv 31 mX3_mostOf 1 := ⟨⟨z_in 227 (by decide +kernel), z_in 228 (by decide +kernel), z_in 2 (by decide +kernel), z_in 229 (by decide +kernel)⟩, ⟨by decide +kernel, by decide +kernel, by decide +kernel⟩, ⟨h, by show 8 + (1 + 11) + 36 * 0 ≤ 36 * lv; omega⟩⟩
theorem q_cX3_34 (lv : Nat) (h : 1 ≤ lv) : z_CV RX3 lv 34 mX3_figure RX3 1 := ⟨⟨z_in 234 (by decide +kernel), z_in 235 (by decide +kernel), z_in 236 (by decide +kernel), z_in 2 (by decide +kernel), z_in 237 (by decide +kernel)⟩, ⟨rfl, by decide +kernel, by decide +kernel, by decide +kernel⟩, ⟨h, by show 8 + (3 + 11) + 36 * 0 ≤ 36 * lv; omega⟩⟩
theorem q_cX4_54 (lv : Nat) (h : 2 ≤ lv) : z_CV RX4 lv 54 mX4_addPin RX4 2 := ⟨⟨z_in 246 (by decide +kernel), z_in 248 (by decide +kernel), z_inp 2 (q := (yX4_addPin, 11)) (by decide +kernel), z_in 3 (by decide +kernel), z_in 249 (by decide +kernel)⟩, ⟨rfl, by decide +kernel, by decide +kernel, by decide +kernel⟩, ⟨h, by show 8 + (3 + 11) + 36 * 1 ≤ 36 * lv; omega⟩⟩
theorem q_cX4_58 (lv : Nat) (h : 1 ≤ lv) : z_CV RX4 lv 58 mX3_figure RX3 1 := ⟨⟨z_in 250 (by decide +kernel), z_in 235 (by decide +kernel), z_in 236 (by decide +kernel), z_in 2 (by decide +kernel), z_in 237 (by decide +kernel)⟩, ⟨rfl, by decide +kernel, by decide +kernel, by decide +kernel⟩, ⟨h, by show 8 + (3 + 11) + 36 * 0 ≤ 36 * lv; omega⟩⟩
theorem q_cX4_62 (lv : Nat) (h : 1 ≤ lv) : z_CS RX4 lv 62 mJ9_max_7cf53 2 := ⟨⟨z_in 271 (by decide +kernel), z_in 272 (by decide +kernel), z_in 9 (by decide +kernel), z_in 273 (by decide +kernel)⟩, ⟨by decide +kernel, by decide +kernel, by decide +kernel⟩, ⟨h, by show 8 + (2 + 11) + 36 * 0 ≤ 36 * lv; omega⟩⟩
theorem q_cX4_68 (lv : Nat) (h : 1 ≤ lv) : z_CV RX4 lv 68 mX4_endsOf RX4 1 := ⟨⟨z_in 289 (by decide +kernel), z_in 290 (by decide +kernel), z_in 291 (by decide +kernel), z_in 3 (by decide +kernel), z_in 292 (by decide +kernel)⟩, ⟨rfl, by decide +kernel, by decide +kernel, by decide +kernel⟩, ⟨h, by show 8 + (2 + 11) + 36 * 0 ≤ 36 * lv; omega⟩⟩
theorem q_cX4_71 (lv : Nat) (h : 2 ≤ lv) : z_CV RX4 lv 71 mX4_reach RX4 2 := ⟨⟨z_in 423 (by decide +kernel), z_in 286 (by decide +kernel), z_in 287 (by decide +kernel), z_in 3 (by decide +kernel), z_in 288 (by decide +kernel)⟩, ⟨rfl, by decide +kernel, by decide +kernel, by decide +kernel⟩, ⟨h, by show 8 + (6 + 11) + 36 * 1 ≤ 36 * lv; omega⟩⟩
theorem q_cX4_74 (lv : Nat) (h : 1 ≤ lv) : z_CS RX4 lv 74 mJ6_bitCount_0f7a4 1 := ⟨⟨z_in 503 (by decide +kernel), z_in 332 (by decide +kernel), z_in 10 (by decide +kernel), z_in 333 (by decide +kernel)⟩, ⟨by decide +kernel, by decide +kernel, by decide +kernel⟩, ⟨h, by show 8 + (1 + 11) + 36 * 0 ≤ 36 * lv; omega⟩⟩
theorem q_cX4_79 (lv : Nat) (h : 3 ≤ lv) : z_CV RX4 lv 79 mX4_areTogether RX4 3 := ⟨⟨z_in 440 (by decide +kernel), z_in 420 (by decide +kernel), z_in 421 (by decide +kernel), z_in 3 (by decide +kernel), z_in 422 (by decide +kernel)⟩, ⟨rfl, by decide +kernel, by decide +kernel, by decide +kernel⟩, ⟨h, by show 8 + (4 + 11) + 36 * 2 ≤ 36 * lv; omega⟩⟩
theorem q_cX7_70 (lv : Nat) (h : 1 ≤ lv) : z_CS RX7 lv 70 mX7_in 3 := ⟨⟨z_in 666 (by decide +kernel), z_in 667 (by decide +kernel), z_in 8 (by decide +kernel), z_in 668 (by decide +kernel)⟩, ⟨by decide +kernel, by decide +kernel, by decide +kernel⟩, ⟨h, by show 8 + (6 + 11) + 36 * 0 ≤ 36 * lv; omega⟩⟩
theorem q_cX7_93 (lv : Nat) (h : 3 ≤ lv) : z_CV RX7 lv 93 mX7_readPart RX7 1 := ⟨⟨z_in 681 (by decide +kernel), z_in 683 (by decide +kernel), z_inp 19 (q := (yX7_readPart, 32)) (by decide +kernel), z_in 8 (by decide +kernel), z_in 684 (by decide +kernel)⟩, ⟨rfl, by decide +kernel, by decide +kernel, by decide +kernel⟩, ⟨h, by show 8 + (3 + 11) + 36 * 2 ≤ 36 * lv; omega⟩⟩
theorem q_cX7_97 (lv : Nat) (h : 2 ≤ lv) : z_CV RX7 lv 97 mX7_figureOf RX7 2 := ⟨⟨z_in 685 (by decide +kernel), z_in 687 (by decide +kernel), z_inp 20 (q := (yX7_figureOf, 32)) (by decide +kernel), z_in 8 (by decide +kernel), z_in 688 (by decide +kernel)⟩, ⟨rfl, by decide +kernel, by decide +kernel, by decide +kernel⟩, ⟨h, by show 8 + (5 + 11) + 36 * 1 ≤ 36 * lv; omega⟩⟩
theorem q_cX7_101 (lv : Nat) (h : 4 ≤ lv) : z_CV RX7 lv 101 mX7_readText RX7 0 := ⟨⟨z_in 677 (by decide +kernel), z_in 679 (by decide +kernel), z_inp 18 (q := (yX7_readText, 32)) (by decide +kernel), z_in 8 (by decide +kernel), z_in 680 (by decide +kernel)⟩, ⟨rfl, by decide +kernel, by decide +kernel, by decide +kernel⟩, ⟨h, by show 8 + (1 + 11) + 36 * 3 ≤ 36 * lv; omega⟩⟩
theorem q_cX7_119 (lv : Nat) (h : 1 ≤ lv) : z_CS RX7 lv 119 mX7_has 2 := ⟨⟨z_in 717 (by decide +kernel), z_in 718 (by decide +kernel), z_in 8 (by decide +kernel), z_in 719 (by decide +kernel)⟩, ⟨by decide +kernel, by decide +kernel, by decide +kernel⟩, ⟨h, by show 8 + (2 + 11) + 36 * 0 ≤ 36 * lv; omega⟩⟩
theorem q_cX7_123 (lv : Nat) (h : 2 ≤ lv) : z_CV RX7 lv 123 mX7_withBy RX7 2 := ⟨⟨z_in 713 (by decide +kernel), z_in 715 (by decide +kernel), z_inp 23 (q := (yX7_withBy, 32)) (by decide +kernel), z_in 8 (by decide +kernel), z_in 716 (by decide +kernel)⟩, ⟨rfl, by decide +kernel, by decide +kernel, by decide +kernel⟩, ⟨h, by show 8 + (7 + 11) + 36 * 1 ≤ 36 * lv; omega⟩⟩
theorem q_cX7_126 (lv : Nat) (h : 3 ≤ lv) : z_CV RX7 lv 126 mX7_isTogether RX7 3 := ⟨⟨z_in 797 (by decide +kernel), z_in 799 (by decide +kernel), z_inp 33 (q := (yX7_isTogether, 32)) (by decide +kernel), z_in 8 (by decide +kernel), z_in 800 (by decide +kernel)⟩, ⟨rfl, by decide +kernel, by decide +kernel, by decide +kernel⟩, ⟨h, by show 8 + (4 + 11) + 36 * 2 ≤ 36 * lv; omega⟩⟩
theorem q_cX7_130 (lv : Nat) (h : 1 ≤ lv) : z_CV RX7 lv 130 mX7_onBoth RX7 1 := ⟨⟨z_in 740 (by decide +kernel), z_in 742 (by decide +kernel), z_inp 28 (q := (yX7_onBoth, 32)) (by decide +kernel), z_in 8 (by decide +kernel), z_in 743 (by decide +kernel)⟩, ⟨rfl, by decide +kernel, by decide +kernel, by decide +kernel⟩, ⟨h, by show 8 + (2 + 11) + 36 * 0 ≤ 36 * lv; omega⟩⟩
theorem q_cX7_134 (lv : Nat) (h : 1 ≤ lv) : z_CV RX7 lv 134 mX7_holdsOn RX7 2 := ⟨⟨z_in 701 (by decide +kernel), z_in 703 (by decide +kernel), z_inp 22 (q := (yX7_holdsOn, 32)) (by decide +kernel), z_in 8 (by decide +kernel), z_in 704 (by decide +kernel)⟩, ⟨rfl, by decide +kernel, by decide +kernel, by decide +kernel⟩, ⟨h, by show 8 + (4 + 11) + 36 * 0 ≤ 36 * lv; omega⟩⟩
theorem q_cX7_137 (lv : Nat) (h : 1 ≤ lv) : z_CS RX7 lv 137 mX7_ones 1 := ⟨⟨z_in 744 (by decide +kernel), z_in 745 (by decide +kernel), z_in 8 (by decide +kernel), z_in 746 (by decide +kernel)⟩, ⟨by decide +kernel, by decide +kernel, by decide +kernel⟩, ⟨h, by show 8 + (3 + 11) + 36 * 0 ≤ 36 * lv; omega⟩⟩
theorem q_cX7_140 (lv : Nat) (h : 1 ≤ lv) : z_CV RX7 lv 140 mX7_unload RX7 0 := ⟨⟨z_in 732 (by decide +kernel), z_in 734 (by decide +kernel), z_inp 26 (q := (yX7_unload, 32)) (by decide +kernel), z_in 8 (by decide +kernel), z_in 735 (by decide +kernel)⟩, ⟨rfl, by decide +kernel, by decide +kernel, by decide +kernel⟩, ⟨h, by show 8 + (2 + 11) + 36 * 0 ≤ 36 * lv; omega⟩⟩
theorem q_cX7_143 (lv : Nat) (h : 2 ≤ lv) : z_CV RX7 lv 143 mX7_ping RX7 1 := ⟨⟨z_in 736 (by decide +kernel), z_in 738 (by decide +kernel), z_inp 27 (q := (yX7_ping, 32)) (by decide +kernel), z_in 8 (by decide +kernel), z_in 739 (by decide +kernel)⟩, ⟨rfl, by decide +kernel, by decide +kernel, by decide +kernel⟩, ⟨h, by show 8 + (5 + 11) + 36 * 1 ≤ 36 * lv; omega⟩⟩
theorem q_cX7_146 (lv : Nat) (h : 2 ≤ lv) : z_CV RX7 lv 146 mX7_isPin RX7 1 := ⟨⟨z_in 697 (by decide +kernel), z_in 699 (by decide +kernel), z_inp 21 (q := (yX7_isPin, 32)) (by decide +kernel), z_in 8 (by decide +kernel), z_in 700 (by decide +kernel)⟩, ⟨rfl, by decide +kernel, by decide +kernel, by decide +kernel⟩, ⟨h, by show 8 + (2 + 11) + 36 * 1 ≤ 36 * lv; omega⟩⟩
theorem q_cX7_150 (lv : Nat) (h : 2 ≤ lv) : z_CS RX7 lv 150 mX7_isThing 1 := ⟨⟨z_in 709 (by decide +kernel), z_in 710 (by decide +kernel), z_in 8 (by decide +kernel), z_in 711 (by decide +kernel)⟩, ⟨by decide +kernel, by decide +kernel, by decide +kernel⟩, ⟨h, by show 8 + (1 + 11) + 36 * 1 ≤ 36 * lv; omega⟩⟩
theorem q_cX7_156 (lv : Nat) (h : 1 ≤ lv) : z_CV RX7 lv 156 mX7_keepAct RX7 0 := ⟨⟨z_in 724 (by decide +kernel), z_in 726 (by decide +kernel), z_inp 24 (q := (yX7_keepAct, 32)) (by decide +kernel), z_in 8 (by decide +kernel), z_in 727 (by decide +kernel)⟩, ⟨rfl, by decide +kernel, by decide +kernel, by decide +kernel⟩, ⟨h, by show 8 + (2 + 11) + 36 * 0 ≤ 36 * lv; omega⟩⟩
theorem q_cX7_159 (lv : Nat) (h : 3 ≤ lv) : z_CV RX7 lv 159 mX7_passOn RX7 1 := ⟨⟨z_in 728 (by decide +kernel), z_in 730 (by decide +kernel), z_inp 25 (q := (yX7_passOn, 32)) (by decide +kernel), z_in 8 (by decide +kernel), z_in 731 (by decide +kernel)⟩, ⟨rfl, by decide +kernel, by decide +kernel, by decide +kernel⟩, ⟨h, by show 8 + (5 + 11) + 36 * 2 ≤ 36 * lv; omega⟩⟩
theorem q_cX7_164 (lv : Nat) (h : 3 ≤ lv) : z_CV RX7 lv 164 mX7_tugOn RX7 3 := ⟨⟨z_in 752 (by decide +kernel), z_in 754 (by decide +kernel), z_inp 29 (q := (yX7_tugOn, 32)) (by decide +kernel), z_in 8 (by decide +kernel), z_in 755 (by decide +kernel)⟩, ⟨rfl, by decide +kernel, by decide +kernel, by decide +kernel⟩, ⟨h, by show 8 + (4 + 11) + 36 * 2 ≤ 36 * lv; omega⟩⟩
theorem q_cX7_168 (lv : Nat) (h : 1 ≤ lv) : z_CV RX7 lv 168 mX7_shutOn RX7 2 := ⟨⟨z_in 760 (by decide +kernel), z_in 762 (by decide +kernel), z_inp 30 (q := (yX7_shutOn, 32)) (by decide +kernel), z_in 8 (by decide +kernel), z_in 763 (by decide +kernel)⟩, ⟨rfl, by decide +kernel, by decide +kernel, by decide +kernel⟩, ⟨h, by show 8 + (3 + 11) + 36 * 0 ≤ 36 * lv; omega⟩⟩
theorem q_cX7_174 (lv : Nat) (h : 1 ≤ lv) : z_CV RX7 lv 174 mX7_layTrial RX7 0 := ⟨⟨z_in 777 (by decide +kernel), z_in 779 (by decide +kernel), z_inp 31 (q := (yX7_layTrial, 32)) (by decide +kernel), z_in 8 (by decide +kernel), z_in 780 (by decide +kernel)⟩, ⟨rfl, by decide +kernel, by decide +kernel, by decide +kernel⟩, ⟨h, by show 8 + (2 + 11) + 36 * 0 ≤ 36 * lv; omega⟩⟩
theorem q_cX7_177 (lv : Nat) (h : 1 ≤ lv) : z_CV RX7 lv 177 mX7_all RX7 0 := ⟨⟨z_in 793 (by decide +kernel), z_in 795 (by decide +kernel), z_inp 32 (q := (yX7_all, 32)) (by decide +kernel), z_in 8 (by decide +kernel), z_in 796 (by decide +kernel)⟩, ⟨rfl, by decide +kernel, by decide +kernel, by decide +kernel⟩, ⟨h, by show 8 + (1 + 11) + 36 * 0 ≤ 36 * lv; omega⟩⟩
theorem q_cX7_180 (lv : Nat) (h : 4 ≤ lv) : z_CV RX7 lv 180 mX7_doableBy RX7 1 := ⟨⟨z_in 809 (by decide +kernel), z_in 811 (by decide +kernel), z_inp 34 (q := (yX7_doableBy, 32)) (by decide +kernel), z_in 8 (by decide +kernel), z_in 812 (by decide +kernel)⟩, ⟨rfl, by decide +kernel, by decide +kernel, by decide +kernel⟩, ⟨h, by show 8 + (4 + 11) + 36 * 3 ≤ 36 * lv; omega⟩⟩
theorem q_cX7_187 (lv : Nat) (h : 1 ≤ lv) : z_CS RX7 lv 187 mX7_thousandTo 1 := ⟨⟨z_in 818 (by decide +kernel), z_in 819 (by decide +kernel), z_in 8 (by decide +kernel), z_in 820 (by decide +kernel)⟩, ⟨by decide +kernel, by decide +kernel, by decide +kernel⟩, ⟨h, by show 8 + (4 + 11) + 36 * 0 ≤ 36 * lv; omega⟩⟩
theorem q_cX7_191 (lv : Nat) (h : 5 ≤ lv) : z_CV RX7 lv 191 mX7_tryThing RX7 3 := ⟨⟨z_in 822 (by decide +kernel), z_in 824 (by decide +kernel), z_inp 35 (q := (yX7_tryThing, 32)) (by decide +kernel), z_in 8 (by decide +kernel), z_in 825 (by decide +kernel)⟩, ⟨rfl, by decide +kernel, by decide +kernel, by decide +kernel⟩, ⟨h, by show 8 + (7 + 11) + 36 * 4 ≤ 36 * lv; omega⟩⟩
theorem q_cX7_199 (lv : Nat) (h : 1 ≤ lv) : z_CS RX7 lv 199 mX7_factorial 1 := ⟨⟨z_in 843 (by decide +kernel), z_in 844 (by decide +kernel), z_in 8 (by decide +kernel), z_in 845 (by decide +kernel)⟩, ⟨by decide +kernel, by decide +kernel, by decide +kernel⟩, ⟨h, by show 8 + (3 + 11) + 36 * 0 ≤ 36 * lv; omega⟩⟩
theorem q_cX7_202 (lv : Nat) (h : 4 ≤ lv) : z_CV RX7 lv 202 mX7_pairsBy RX7 1 := ⟨⟨z_in 846 (by decide +kernel), z_in 848 (by decide +kernel), z_inp 36 (q := (yX7_pairsBy, 32)) (by decide +kernel), z_in 8 (by decide +kernel), z_in 849 (by decide +kernel)⟩, ⟨rfl, by decide +kernel, by decide +kernel, by decide +kernel⟩, ⟨h, by show 8 + (5 + 11) + 36 * 3 ≤ 36 * lv; omega⟩⟩
theorem q_cX7_205 (lv : Nat) (h : 1 ≤ lv) : z_CS RX7 lv 205 mX7_common 2 := ⟨⟨z_in 850 (by decide +kernel), z_in 851 (by decide +kernel), z_in 8 (by decide +kernel), z_in 852 (by decide +kernel)⟩, ⟨by decide +kernel, by decide +kernel, by decide +kernel⟩, ⟨h, by show 8 + (5 + 11) + 36 * 0 ≤ 36 * lv; omega⟩⟩
theorem q_cX7_208 (lv : Nat) (h : 3 ≤ lv) : z_CV RX7 lv 208 mX7_gain RX7 4 := ⟨⟨z_in 861 (by decide +kernel), z_in 863 (by decide +kernel), z_inp 38 (q := (yX7_gain, 32)) (by decide +kernel), z_in 8 (by decide +kernel), z_in 864 (by decide +kernel)⟩, ⟨rfl, by decide +kernel, by decide +kernel, by decide +kernel⟩, ⟨h, by show 8 + (6 + 11) + 36 * 2 ≤ 36 * lv; omega⟩⟩
theorem q_cX7_212 (lv : Nat) (h : 4 ≤ lv) : z_CV RX7 lv 212 mX7_isRest RX7 4 := ⟨⟨z_in 857 (by decide +kernel), z_in 859 (by decide +kernel), z_inp 37 (q := (yX7_isRest, 32)) (by decide +kernel), z_in 8 (by decide +kernel), z_in 860 (by decide +kernel)⟩, ⟨rfl, by decide +kernel, by decide +kernel, by decide +kernel⟩, ⟨h, by show 8 + (7 + 11) + 36 * 3 ≤ 36 * lv; omega⟩⟩
theorem q_cX7_218 (lv : Nat) (h : 1 ≤ lv) : z_CS RX7 lv 218 mX7_power 2 := ⟨⟨z_in 870 (by decide +kernel), z_in 871 (by decide +kernel), z_in 8 (by decide +kernel), z_in 872 (by decide +kernel)⟩, ⟨by decide +kernel, by decide +kernel, by decide +kernel⟩, ⟨h, by show 8 + (4 + 11) + 36 * 0 ≤ 36 * lv; omega⟩⟩
theorem q_cX7_233 (lv : Nat) (h : 1 ≤ lv) : z_CV RX7 lv 233 mX7_wearOfAll RX7 0 := ⟨⟨z_in 897 (by decide +kernel), z_in 899 (by decide +kernel), z_inp 39 (q := (yX7_wearOfAll, 32)) (by decide +kernel), z_in 8 (by decide +kernel), z_in 900 (by decide +kernel)⟩, ⟨rfl, by decide +kernel, by decide +kernel, by decide +kernel⟩, ⟨h, by show 8 + (3 + 11) + 36 * 0 ≤ 36 * lv; omega⟩⟩
theorem q_kJ6_265 : Jvm.Cond.constant RJ6 265 (1431655765) ∈ z_tb := z_in 334 (by decide +kernel)
theorem q_kJ6_266 : Jvm.Cond.constant RJ6 266 (858993459) ∈ z_tb := z_in 335 (by decide +kernel)
theorem q_kJ6_267 : Jvm.Cond.constant RJ6 267 (252645135) ∈ z_tb := z_in 336 (by decide +kernel)
theorem q_kX6_206 : Jvm.Cond.constantLong RX6 206 (1000) ∈ z_tb := z_in 447 (by decide +kernel)
theorem q_kX6_240 : Jvm.Cond.constantLong RX6 240 (6364136223846793005) ∈ z_tb := z_in 536 (by decide +kernel)
theorem q_kX6_242 : Jvm.Cond.constantLong RX6 242 (1442695040888963407) ∈ z_tb := z_in 537 (by decide +kernel)
theorem q_kX7_68 : Jvm.Cond.constantLong RX7 68 (255) ∈ z_tb := z_in 665 (by decide +kernel)
theorem q_kX7_117 : Jvm.Cond.constantLong RX7 117 (5) ∈ z_tb := z_in 712 (by decide +kernel)
theorem q_kX7_162 : Jvm.Cond.constantLong RX7 162 (9) ∈ z_tb := z_in 751 (by decide +kernel)
theorem q_kX7_172 : Jvm.Cond.constantLong RX7 172 (20) ∈ z_tb := z_in 776 (by decide +kernel)
theorem q_kX7_185 : Jvm.Cond.constantLong RX7 185 (4) ∈ z_tb := z_in 817 (by decide +kernel)
theorem q_kX7_183 : Jvm.Cond.constantLong RX7 183 (1000) ∈ z_tb := z_in 821 (by decide +kernel)
theorem q_kX7_194 : Jvm.Cond.constantLong RX7 194 (12) ∈ z_tb := z_in 830 (by decide +kernel)
theorem q_kX7_216 : Jvm.Cond.constantLong RX7 216 (10) ∈ z_tb := z_in 869 (by decide +kernel)
theorem q_kX7_225 : Jvm.Cond.constantLong RX7 225 (30) ∈ z_tb := z_in 881 (by decide +kernel)
theorem q_kX7_227 : Jvm.Cond.constantLong RX7 227 (6364136223846793005) ∈ z_tb := z_in 882 (by decide +kernel)
theorem q_kX7_229 : Jvm.Cond.constantLong RX7 229 (1442695040888963407) ∈ z_tb := z_in 883 (by decide +kernel)
theorem q_kX7_231 : Jvm.Cond.constantLong RX7 231 (32) ∈ z_tb := z_in 884 (by decide +kernel)
theorem q_kL_85 : Jvm.Cond.constantLong RL 85 (4294967295) ∈ z_tb := z_in 901 (by decide +kernel)
theorem z_s0 : z_shp[0]? = some (.inr (.inl (6, [3, 5, 14, 16, 18, 20, 50, 55, 56, 59, 60, 1]))) := rfl
theorem z_s1 : z_shp[1]? = some (.inr (.inl (3, [4, 0]))) := rfl
theorem z_s2 : z_shp[2]? = some (.inl (0, 60)) := rfl
theorem z_s3 : z_shp[3]? = some (.inr (.inl (4, [0, 6, 7, 8, 9, 0, 10, 11, 0, 12, 13]))) := rfl
theorem z_s4 : z_shp[4]? = some (.inl (0, 7)) := rfl
theorem z_s5 : z_shp[5]? = some (.inl (0, 7)) := rfl
theorem z_s6 : z_shp[6]? = some (.inl (0, 7)) := rfl
theorem z_s7 : z_shp[7]? = some (.inl (0, 7)) := rfl
theorem z_s8 : z_shp[8]? = some (.inl (0, 4)) := rfl
theorem z_s9 : z_shp[9]? = some (.inl (0, 4)) := rfl
theorem z_s10 : z_shp[10]? = some (.inl (0, 3)) := rfl
theorem z_s11 : z_shp[11]? = some (.inl (0, 3)) := rfl
theorem z_s12 : z_shp[12]? = some (.inr (.inl (1, [5, 15]))) := rfl
theorem z_s13 : z_shp[13]? = some (.inl (0, 6)) := rfl
theorem z_s14 : z_shp[14]? = some (.inr (.inl (2, [0, 17, 0]))) := rfl
theorem z_s15 : z_shp[15]? = some (.inl (0, 7)) := rfl
theorem z_s16 : z_shp[16]? = some (.inr (.inl (2, [0, 19, 0]))) := rfl
theorem z_s17 : z_shp[17]? = some (.inl (0, 7)) := rfl
theorem z_s18 : z_shp[18]? = some (.inr (.inl (0, [21, 0, 0]))) := rfl
theorem z_s19 : z_shp[19]? = some (.inr (.inr [20, 22, 24, 26, 28, 30, 32, 34, 36, 38, 40, 42, 44, 46])) := rfl
theorem z_s20 : z_shp[20]? = some (.inr (.inl (2, [0, 23, 0]))) := rfl
theorem z_s21 : z_shp[21]? = some (.inl (0, 7)) := rfl
theorem z_s22 : z_shp[22]? = some (.inr (.inl (2, [0, 25, 0]))) := rfl
theorem z_s23 : z_shp[23]? = some (.inl (0, 7)) := rfl
theorem z_s24 : z_shp[24]? = some (.inr (.inl (2, [0, 27, 0]))) := rfl
theorem z_s25 : z_shp[25]? = some (.inl (0, 7)) := rfl
theorem z_s26 : z_shp[26]? = some (.inr (.inl (2, [0, 29, 0]))) := rfl
theorem z_s27 : z_shp[27]? = some (.inl (0, 7)) := rfl
theorem z_s28 : z_shp[28]? = some (.inr (.inl (2, [0, 31, 0]))) := rfl
theorem z_s29 : z_shp[29]? = some (.inl (0, 7)) := rfl
theorem z_s30 : z_shp[30]? = some (.inr (.inl (2, [0, 33, 0]))) := rfl
theorem z_s31 : z_shp[31]? = some (.inl (0, 7)) := rfl
theorem z_s32 : z_shp[32]? = some (.inr (.inl (2, [0, 35, 0]))) := rfl
theorem z_s33 : z_shp[33]? = some (.inl (0, 7)) := rfl
theorem z_s34 : z_shp[34]? = some (.inr (.inl (2, [0, 37, 0]))) := rfl
theorem z_s35 : z_shp[35]? = some (.inl (0, 7)) := rfl
theorem z_s36 : z_shp[36]? = some (.inr (.inl (2, [0, 39, 0]))) := rfl
theorem z_s37 : z_shp[37]? = some (.inl (0, 7)) := rfl
theorem z_s38 : z_shp[38]? = some (.inr (.inl (2, [0, 41, 0]))) := rfl
theorem z_s39 : z_shp[39]? = some (.inl (0, 7)) := rfl
theorem z_s40 : z_shp[40]? = some (.inr (.inl (2, [0, 43, 0]))) := rfl
theorem z_s41 : z_shp[41]? = some (.inl (0, 7)) := rfl
theorem z_s42 : z_shp[42]? = some (.inr (.inl (2, [0, 45, 0]))) := rfl
theorem z_s43 : z_shp[43]? = some (.inl (0, 7)) := rfl
theorem z_s44 : z_shp[44]? = some (.inr (.inl (2, [0, 47, 0]))) := rfl
theorem z_s45 : z_shp[45]? = some (.inl (0, 7)) := rfl
theorem z_s46 : z_shp[46]? = some (.inr (.inl (2, [0, 49, 0]))) := rfl
theorem z_s47 : z_shp[47]? = some (.inl (0, 7)) := rfl
theorem z_s48 : z_shp[48]? = some (.inr (.inr [49, 51])) := rfl
theorem z_s49 : z_shp[49]? = some (.inr (.inl (2, [0, 52, 0]))) := rfl
theorem z_s50 : z_shp[50]? = some (.inl (0, 7)) := rfl
theorem z_s51 : z_shp[51]? = some (.inr (.inl (2, [0, 54, 0]))) := rfl
theorem z_s52 : z_shp[52]? = some (.inl (0, 7)) := rfl
theorem z_s53 : z_shp[53]? = some (.inl (1, 2)) := rfl
theorem z_s54 : z_shp[54]? = some (.inr (.inl (5, [57, 58, 0]))) := rfl
theorem z_s55 : z_shp[55]? = some (.inl (0, 6)) := rfl
theorem z_s56 : z_shp[56]? = some (.inl (1, 6)) := rfl
theorem z_s57 : z_shp[57]? = some (.inl (0, 9)) := rfl
theorem z_s58 : z_shp[58]? = some (.inl (0, 9)) := rfl
theorem z_s59 : z_shp[59]? = some (.inr (.inl (7, [0, 0, 0, 62, 63, 64, 65, 66, 67, 68, 69, 70, 71, 72, 73, 0, 0, 0, 74, 0, 0, 0, 75, 0, 0, 76, 0, 77, 78, 1, 79, 80]))) := rfl
theorem z_s60 : z_shp[60]? = some (.inl (0, 7)) := rfl
theorem z_s61 : z_shp[61]? = some (.inl (0, 7)) := rfl
theorem z_s62 : z_shp[62]? = some (.inl (0, 7)) := rfl
theorem z_s63 : z_shp[63]? = some (.inl (0, 7)) := rfl
theorem z_s64 : z_shp[64]? = some (.inl (0, 4)) := rfl
theorem z_s65 : z_shp[65]? = some (.inl (0, 4)) := rfl
theorem z_s66 : z_shp[66]? = some (.inl (0, 3)) := rfl
theorem z_s67 : z_shp[67]? = some (.inl (0, 3)) := rfl
theorem z_s68 : z_shp[68]? = some (.inl (0, 18)) := rfl
theorem z_s69 : z_shp[69]? = some (.inl (0, 28)) := rfl
theorem z_s70 : z_shp[70]? = some (.inl (0, 8)) := rfl
theorem z_s71 : z_shp[71]? = some (.inl (0, 6)) := rfl
theorem z_s72 : z_shp[72]? = some (.inl (0, 60)) := rfl
theorem z_s73 : z_shp[73]? = some (.inl (0, 6)) := rfl
theorem z_s74 : z_shp[74]? = some (.inl (0, 126)) := rfl
theorem z_s75 : z_shp[75]? = some (.inl (0, 6)) := rfl
theorem z_s76 : z_shp[76]? = some (.inl (0, 6)) := rfl
theorem z_s77 : z_shp[77]? = some (.inl (1, 2)) := rfl
theorem z_s78 : z_shp[78]? = some (.inl (0, 18)) := rfl
end
