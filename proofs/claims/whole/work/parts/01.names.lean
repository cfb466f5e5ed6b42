-- ===== PART A: goes FIRST, ahead of the names: the tables' words, and 'selects' of the private methods out of them =====
/-- a private method of a class that the tables say can be made, by its rows of tables_1 -/
def lw_okq (q : MethodName × Nat) : Prop := (q.1.cls ≠ "java/lang/invoke/MethodHandle" ∧ q.1.cls ≠ "java/lang/invoke/VarHandle") ∧ Cond.instantiable q.1.cls q.2 ∈ tables_1 ∧ Cond.privateMethod q.1 ∈ tables_1 ∧ Cond.instanceMethod q.1 ∈ tables_1
theorem lw_p0 : lw_okq (⟨"SafetyPins$Script", "canBegin", "(I)Z"⟩, 2) := ⟨⟨by decide +kernel, by decide +kernel⟩, List.mem_of_getElem? (i := 20) (by decide +kernel), List.mem_of_getElem? (i := 221) (by decide +kernel), List.mem_of_getElem? (i := 222) (by decide +kernel)⟩
theorem lw_p1 : lw_okq (⟨"SafetyPins$Script", "canGoOn", "(II)Z"⟩, 2) := ⟨⟨by decide +kernel, by decide +kernel⟩, List.mem_of_getElem? (i := 20) (by decide +kernel), List.mem_of_getElem? (i := 231) (by decide +kernel), List.mem_of_getElem? (i := 232) (by decide +kernel)⟩
theorem lw_p2 : lw_okq (⟨"SafetyPins$Town", "addPin", "(LSafetyPins$Script;I)V"⟩, 11) := ⟨⟨by decide +kernel, by decide +kernel⟩, List.mem_of_getElem? (i := 37) (by decide +kernel), List.mem_of_getElem? (i := 247) (by decide +kernel), List.mem_of_getElem? (i := 248) (by decide +kernel)⟩
theorem lw_p3 : lw_okq (⟨"SafetyPins", "isPin", "(I)Z"⟩, 12) := ⟨⟨by decide +kernel, by decide +kernel⟩, List.mem_of_getElem? (i := 12) (by decide +kernel), List.mem_of_getElem? (i := 264) (by decide +kernel), List.mem_of_getElem? (i := 265) (by decide +kernel)⟩
theorem lw_p4 : lw_okq (⟨"SafetyPins$Forces", "springShut", "(LSafetyPins$Plight;)V"⟩, 2) := ⟨⟨by decide +kernel, by decide +kernel⟩, List.mem_of_getElem? (i := 91) (by decide +kernel), List.mem_of_getElem? (i := 313) (by decide +kernel), List.mem_of_getElem? (i := 314) (by decide +kernel)⟩
theorem lw_p5 : lw_okq (⟨"SafetyPins$Forces", "givingNow", "(LSafetyPins$Plight;)I"⟩, 2) := ⟨⟨by decide +kernel, by decide +kernel⟩, List.mem_of_getElem? (i := 91) (by decide +kernel), List.mem_of_getElem? (i := 338) (by decide +kernel), List.mem_of_getElem? (i := 339) (by decide +kernel)⟩
theorem lw_p6 : lw_okq (⟨"SafetyPins$Forces", "loadOf", "(I)I"⟩, 2) := ⟨⟨by decide +kernel, by decide +kernel⟩, List.mem_of_getElem? (i := 91) (by decide +kernel), List.mem_of_getElem? (i := 343) (by decide +kernel), List.mem_of_getElem? (i := 344) (by decide +kernel)⟩
theorem lw_p7 : lw_okq (⟨"SafetyPins$Forces", "wearDown", "(LSafetyPins$Plight;)V"⟩, 2) := ⟨⟨by decide +kernel, by decide +kernel⟩, List.mem_of_getElem? (i := 91) (by decide +kernel), List.mem_of_getElem? (i := 352) (by decide +kernel), List.mem_of_getElem? (i := 353) (by decide +kernel)⟩
theorem lw_p8 : lw_okq (⟨"SafetyPins", "isBetterCut", "(II)Z"⟩, 12) := ⟨⟨by decide +kernel, by decide +kernel⟩, List.mem_of_getElem? (i := 12) (by decide +kernel), List.mem_of_getElem? (i := 416) (by decide +kernel), List.mem_of_getElem? (i := 417) (by decide +kernel)⟩
theorem lw_p9 : lw_okq (⟨"SafetyPins", "firstThatParts", "(III)I"⟩, 12) := ⟨⟨by decide +kernel, by decide +kernel⟩, List.mem_of_getElem? (i := 12) (by decide +kernel), List.mem_of_getElem? (i := 429) (by decide +kernel), List.mem_of_getElem? (i := 430) (by decide +kernel)⟩
theorem lw_p10 : lw_okq (⟨"SafetyPins", "comesTrue", "(III)Z"⟩, 12) := ⟨⟨by decide +kernel, by decide +kernel⟩, List.mem_of_getElem? (i := 12) (by decide +kernel), List.mem_of_getElem? (i := 449) (by decide +kernel), List.mem_of_getElem? (i := 450) (by decide +kernel)⟩
theorem lw_p11 : lw_okq (⟨"SafetyPins", "closesInThought", "(I)Z"⟩, 12) := ⟨⟨by decide +kernel, by decide +kernel⟩, List.mem_of_getElem? (i := 12) (by decide +kernel), List.mem_of_getElem? (i := 453) (by decide +kernel), List.mem_of_getElem? (i := 454) (by decide +kernel)⟩
theorem lw_p12 : lw_okq (⟨"SafetyPins", "unpinsInThought", "(I)Z"⟩, 12) := ⟨⟨by decide +kernel, by decide +kernel⟩, List.mem_of_getElem? (i := 12) (by decide +kernel), List.mem_of_getElem? (i := 457) (by decide +kernel), List.mem_of_getElem? (i := 458) (by decide +kernel)⟩
theorem lw_p13 : lw_okq (⟨"SafetyPins", "pairsBroughtInAllOrders", "(III)J"⟩, 12) := ⟨⟨by decide +kernel, by decide +kernel⟩, List.mem_of_getElem? (i := 12) (by decide +kernel), List.mem_of_getElem? (i := 494) (by decide +kernel), List.mem_of_getElem? (i := 495) (by decide +kernel)⟩
theorem lw_p14 : lw_okq (⟨"SafetyPins", "reckonGains", "(II)V"⟩, 12) := ⟨⟨by decide +kernel, by decide +kernel⟩, List.mem_of_getElem? (i := 12) (by decide +kernel), List.mem_of_getElem? (i := 509) (by decide +kernel), List.mem_of_getElem? (i := 510) (by decide +kernel)⟩
theorem lw_p15 : lw_okq (⟨"SafetyPins", "priceOfBeingAlone", "(I)I"⟩, 12) := ⟨⟨by decide +kernel, by decide +kernel⟩, List.mem_of_getElem? (i := 12) (by decide +kernel), List.mem_of_getElem? (i := 514) (by decide +kernel), List.mem_of_getElem? (i := 515) (by decide +kernel)⟩
def lw_privs_1 : List (MethodName × Nat) := [(⟨"SafetyPins$Script", "canBegin", "(I)Z"⟩, 2), (⟨"SafetyPins$Script", "canGoOn", "(II)Z"⟩, 2), (⟨"SafetyPins$Town", "addPin", "(LSafetyPins$Script;I)V"⟩, 11), (⟨"SafetyPins", "isPin", "(I)Z"⟩, 12), (⟨"SafetyPins$Forces", "springShut", "(LSafetyPins$Plight;)V"⟩, 2), (⟨"SafetyPins$Forces", "givingNow", "(LSafetyPins$Plight;)I"⟩, 2), (⟨"SafetyPins$Forces", "loadOf", "(I)I"⟩, 2), (⟨"SafetyPins$Forces", "wearDown", "(LSafetyPins$Plight;)V"⟩, 2), (⟨"SafetyPins", "isBetterCut", "(II)Z"⟩, 12), (⟨"SafetyPins", "firstThatParts", "(III)I"⟩, 12), (⟨"SafetyPins", "comesTrue", "(III)Z"⟩, 12), (⟨"SafetyPins", "closesInThought", "(I)Z"⟩, 12), (⟨"SafetyPins", "unpinsInThought", "(I)Z"⟩, 12), (⟨"SafetyPins", "pairsBroughtInAllOrders", "(III)J"⟩, 12), (⟨"SafetyPins", "reckonGains", "(II)V"⟩, 12), (⟨"SafetyPins", "priceOfBeingAlone", "(I)I"⟩, 12)]
theorem lw_r1 : ∀ q ∈ lw_privs_1, lw_okq q := List.forall_mem_cons.mpr ⟨lw_p0, List.forall_mem_cons.mpr ⟨lw_p1, List.forall_mem_cons.mpr ⟨lw_p2, List.forall_mem_cons.mpr ⟨lw_p3, List.forall_mem_cons.mpr ⟨lw_p4, List.forall_mem_cons.mpr ⟨lw_p5, List.forall_mem_cons.mpr ⟨lw_p6, List.forall_mem_cons.mpr ⟨lw_p7, List.forall_mem_cons.mpr ⟨lw_p8, List.forall_mem_cons.mpr ⟨lw_p9, List.forall_mem_cons.mpr ⟨lw_p10, List.forall_mem_cons.mpr ⟨lw_p11, List.forall_mem_cons.mpr ⟨lw_p12, List.forall_mem_cons.mpr ⟨lw_p13, List.forall_mem_cons.mpr ⟨lw_p14, List.forall_mem_cons.mpr ⟨lw_p15, fun _ h => absurd h List.not_mem_nil⟩⟩⟩⟩⟩⟩⟩⟩⟩⟩⟩⟩⟩⟩⟩⟩
theorem lw_p16 : lw_okq (⟨"SafetyPins", "isAtRest", "(II)Z"⟩, 12) := ⟨⟨by decide +kernel, by decide +kernel⟩, List.mem_of_getElem? (i := 12) (by decide +kernel), List.mem_of_getElem? (i := 518) (by decide +kernel), List.mem_of_getElem? (i := 519) (by decide +kernel)⟩
theorem lw_p17 : lw_okq (⟨"SafetyPins", "passSeason", "(I)V"⟩, 12) := ⟨⟨by decide +kernel, by decide +kernel⟩, List.mem_of_getElem? (i := 12) (by decide +kernel), List.mem_of_getElem? (i := 539) (by decide +kernel), List.mem_of_getElem? (i := 540) (by decide +kernel)⟩
theorem lw_p18 : lw_okq (⟨"SafetyPinsModel", "readText", "()I"⟩, 32) := ⟨⟨by decide +kernel, by decide +kernel⟩, List.mem_of_getElem? (i := 559) (by decide +kernel), List.mem_of_getElem? (i := 678) (by decide +kernel), List.mem_of_getElem? (i := 679) (by decide +kernel)⟩
theorem lw_p19 : lw_okq (⟨"SafetyPinsModel", "readPart", "(I)V"⟩, 32) := ⟨⟨by decide +kernel, by decide +kernel⟩, List.mem_of_getElem? (i := 559) (by decide +kernel), List.mem_of_getElem? (i := 682) (by decide +kernel), List.mem_of_getElem? (i := 683) (by decide +kernel)⟩
theorem lw_p20 : lw_okq (⟨"SafetyPinsModel", "figureOf", "(II)I"⟩, 32) := ⟨⟨by decide +kernel, by decide +kernel⟩, List.mem_of_getElem? (i := 559) (by decide +kernel), List.mem_of_getElem? (i := 686) (by decide +kernel), List.mem_of_getElem? (i := 687) (by decide +kernel)⟩
theorem lw_p21 : lw_okq (⟨"SafetyPinsModel", "isPin", "(I)Z"⟩, 32) := ⟨⟨by decide +kernel, by decide +kernel⟩, List.mem_of_getElem? (i := 559) (by decide +kernel), List.mem_of_getElem? (i := 698) (by decide +kernel), List.mem_of_getElem? (i := 699) (by decide +kernel)⟩
theorem lw_p22 : lw_okq (⟨"SafetyPinsModel", "holdsOn", "(II)I"⟩, 32) := ⟨⟨by decide +kernel, by decide +kernel⟩, List.mem_of_getElem? (i := 559) (by decide +kernel), List.mem_of_getElem? (i := 702) (by decide +kernel), List.mem_of_getElem? (i := 703) (by decide +kernel)⟩
theorem lw_p23 : lw_okq (⟨"SafetyPinsModel", "withBy", "(II)I"⟩, 32) := ⟨⟨by decide +kernel, by decide +kernel⟩, List.mem_of_getElem? (i := 559) (by decide +kernel), List.mem_of_getElem? (i := 714) (by decide +kernel), List.mem_of_getElem? (i := 715) (by decide +kernel)⟩
theorem lw_p24 : lw_okq (⟨"SafetyPinsModel", "keepAct", "()V"⟩, 32) := ⟨⟨by decide +kernel, by decide +kernel⟩, List.mem_of_getElem? (i := 559) (by decide +kernel), List.mem_of_getElem? (i := 725) (by decide +kernel), List.mem_of_getElem? (i := 726) (by decide +kernel)⟩
theorem lw_p25 : lw_okq (⟨"SafetyPinsModel", "passOn", "(I)I"⟩, 32) := ⟨⟨by decide +kernel, by decide +kernel⟩, List.mem_of_getElem? (i := 559) (by decide +kernel), List.mem_of_getElem? (i := 729) (by decide +kernel), List.mem_of_getElem? (i := 730) (by decide +kernel)⟩
theorem lw_p26 : lw_okq (⟨"SafetyPinsModel", "unload", "()V"⟩, 32) := ⟨⟨by decide +kernel, by decide +kernel⟩, List.mem_of_getElem? (i := 559) (by decide +kernel), List.mem_of_getElem? (i := 733) (by decide +kernel), List.mem_of_getElem? (i := 734) (by decide +kernel)⟩
theorem lw_p27 : lw_okq (⟨"SafetyPinsModel", "ping", "(I)I"⟩, 32) := ⟨⟨by decide +kernel, by decide +kernel⟩, List.mem_of_getElem? (i := 559) (by decide +kernel), List.mem_of_getElem? (i := 737) (by decide +kernel), List.mem_of_getElem? (i := 738) (by decide +kernel)⟩
theorem lw_p28 : lw_okq (⟨"SafetyPinsModel", "onBoth", "(I)I"⟩, 32) := ⟨⟨by decide +kernel, by decide +kernel⟩, List.mem_of_getElem? (i := 559) (by decide +kernel), List.mem_of_getElem? (i := 741) (by decide +kernel), List.mem_of_getElem? (i := 742) (by decide +kernel)⟩
theorem lw_p29 : lw_okq (⟨"SafetyPinsModel", "tugOn", "(III)I"⟩, 32) := ⟨⟨by decide +kernel, by decide +kernel⟩, List.mem_of_getElem? (i := 559) (by decide +kernel), List.mem_of_getElem? (i := 753) (by decide +kernel), List.mem_of_getElem? (i := 754) (by decide +kernel)⟩
theorem lw_p30 : lw_okq (⟨"SafetyPinsModel", "shutOn", "(II)V"⟩, 32) := ⟨⟨by decide +kernel, by decide +kernel⟩, List.mem_of_getElem? (i := 559) (by decide +kernel), List.mem_of_getElem? (i := 761) (by decide +kernel), List.mem_of_getElem? (i := 762) (by decide +kernel)⟩
theorem lw_p31 : lw_okq (⟨"SafetyPinsModel", "layTrial", "()V"⟩, 32) := ⟨⟨by decide +kernel, by decide +kernel⟩, List.mem_of_getElem? (i := 559) (by decide +kernel), List.mem_of_getElem? (i := 778) (by decide +kernel), List.mem_of_getElem? (i := 779) (by decide +kernel)⟩
def lw_privs_2 : List (MethodName × Nat) := [(⟨"SafetyPins", "isAtRest", "(II)Z"⟩, 12), (⟨"SafetyPins", "passSeason", "(I)V"⟩, 12), (⟨"SafetyPinsModel", "readText", "()I"⟩, 32), (⟨"SafetyPinsModel", "readPart", "(I)V"⟩, 32), (⟨"SafetyPinsModel", "figureOf", "(II)I"⟩, 32), (⟨"SafetyPinsModel", "isPin", "(I)Z"⟩, 32), (⟨"SafetyPinsModel", "holdsOn", "(II)I"⟩, 32), (⟨"SafetyPinsModel", "withBy", "(II)I"⟩, 32), (⟨"SafetyPinsModel", "keepAct", "()V"⟩, 32), (⟨"SafetyPinsModel", "passOn", "(I)I"⟩, 32), (⟨"SafetyPinsModel", "unload", "()V"⟩, 32), (⟨"SafetyPinsModel", "ping", "(I)I"⟩, 32), (⟨"SafetyPinsModel", "onBoth", "(I)I"⟩, 32), (⟨"SafetyPinsModel", "tugOn", "(III)I"⟩, 32), (⟨"SafetyPinsModel", "shutOn", "(II)V"⟩, 32), (⟨"SafetyPinsModel", "layTrial", "()V"⟩, 32)]
theorem lw_r2 : ∀ q ∈ lw_privs_2, lw_okq q := List.forall_mem_cons.mpr ⟨lw_p16, List.forall_mem_cons.mpr ⟨lw_p17, List.forall_mem_cons.mpr ⟨lw_p18, List.forall_mem_cons.mpr ⟨lw_p19, List.forall_mem_cons.mpr ⟨lw_p20, List.forall_mem_cons.mpr ⟨lw_p21, List.forall_mem_cons.mpr ⟨lw_p22, List.forall_mem_cons.mpr ⟨lw_p23, List.forall_mem_cons.mpr ⟨lw_p24, List.forall_mem_cons.mpr ⟨lw_p25, List.forall_mem_cons.mpr ⟨lw_p26, List.forall_mem_cons.mpr ⟨lw_p27, List.forall_mem_cons.mpr ⟨lw_p28, List.forall_mem_cons.mpr ⟨lw_p29, List.forall_mem_cons.mpr ⟨lw_p30, List.forall_mem_cons.mpr ⟨lw_p31, fun _ h => absurd h List.not_mem_nil⟩⟩⟩⟩⟩⟩⟩⟩⟩⟩⟩⟩⟩⟩⟩⟩
theorem lw_p32 : lw_okq (⟨"SafetyPinsModel", "all", "()I"⟩, 32) := ⟨⟨by decide +kernel, by decide +kernel⟩, List.mem_of_getElem? (i := 559) (by decide +kernel), List.mem_of_getElem? (i := 794) (by decide +kernel), List.mem_of_getElem? (i := 795) (by decide +kernel)⟩
theorem lw_p33 : lw_okq (⟨"SafetyPinsModel", "isTogether", "(III)Z"⟩, 32) := ⟨⟨by decide +kernel, by decide +kernel⟩, List.mem_of_getElem? (i := 559) (by decide +kernel), List.mem_of_getElem? (i := 798) (by decide +kernel), List.mem_of_getElem? (i := 799) (by decide +kernel)⟩
theorem lw_p34 : lw_okq (⟨"SafetyPinsModel", "doableBy", "(I)I"⟩, 32) := ⟨⟨by decide +kernel, by decide +kernel⟩, List.mem_of_getElem? (i := 559) (by decide +kernel), List.mem_of_getElem? (i := 810) (by decide +kernel), List.mem_of_getElem? (i := 811) (by decide +kernel)⟩
theorem lw_p35 : lw_okq (⟨"SafetyPinsModel", "tryThing", "(III)Z"⟩, 32) := ⟨⟨by decide +kernel, by decide +kernel⟩, List.mem_of_getElem? (i := 559) (by decide +kernel), List.mem_of_getElem? (i := 823) (by decide +kernel), List.mem_of_getElem? (i := 824) (by decide +kernel)⟩
theorem lw_p36 : lw_okq (⟨"SafetyPinsModel", "pairsBy", "(I)I"⟩, 32) := ⟨⟨by decide +kernel, by decide +kernel⟩, List.mem_of_getElem? (i := 559) (by decide +kernel), List.mem_of_getElem? (i := 847) (by decide +kernel), List.mem_of_getElem? (i := 848) (by decide +kernel)⟩
theorem lw_p37 : lw_okq (⟨"SafetyPinsModel", "isRest", "(IIII)Z"⟩, 32) := ⟨⟨by decide +kernel, by decide +kernel⟩, List.mem_of_getElem? (i := 559) (by decide +kernel), List.mem_of_getElem? (i := 858) (by decide +kernel), List.mem_of_getElem? (i := 859) (by decide +kernel)⟩
theorem lw_p38 : lw_okq (⟨"SafetyPinsModel", "gain", "(IIII)I"⟩, 32) := ⟨⟨by decide +kernel, by decide +kernel⟩, List.mem_of_getElem? (i := 559) (by decide +kernel), List.mem_of_getElem? (i := 862) (by decide +kernel), List.mem_of_getElem? (i := 863) (by decide +kernel)⟩
theorem lw_p39 : lw_okq (⟨"SafetyPinsModel", "wearOfAll", "()I"⟩, 32) := ⟨⟨by decide +kernel, by decide +kernel⟩, List.mem_of_getElem? (i := 559) (by decide +kernel), List.mem_of_getElem? (i := 898) (by decide +kernel), List.mem_of_getElem? (i := 899) (by decide +kernel)⟩
def lw_privs_3 : List (MethodName × Nat) := [(⟨"SafetyPinsModel", "all", "()I"⟩, 32), (⟨"SafetyPinsModel", "isTogether", "(III)Z"⟩, 32), (⟨"SafetyPinsModel", "doableBy", "(I)I"⟩, 32), (⟨"SafetyPinsModel", "tryThing", "(III)Z"⟩, 32), (⟨"SafetyPinsModel", "pairsBy", "(I)I"⟩, 32), (⟨"SafetyPinsModel", "isRest", "(IIII)Z"⟩, 32), (⟨"SafetyPinsModel", "gain", "(IIII)I"⟩, 32), (⟨"SafetyPinsModel", "wearOfAll", "()I"⟩, 32)]
theorem lw_r3 : ∀ q ∈ lw_privs_3, lw_okq q := List.forall_mem_cons.mpr ⟨lw_p32, List.forall_mem_cons.mpr ⟨lw_p33, List.forall_mem_cons.mpr ⟨lw_p34, List.forall_mem_cons.mpr ⟨lw_p35, List.forall_mem_cons.mpr ⟨lw_p36, List.forall_mem_cons.mpr ⟨lw_p37, List.forall_mem_cons.mpr ⟨lw_p38, List.forall_mem_cons.mpr ⟨lw_p39, fun _ h => absurd h List.not_mem_nil⟩⟩⟩⟩⟩⟩⟩⟩
def lw_privs : List (MethodName × Nat) := lw_privs_1 ++ (lw_privs_2 ++ (lw_privs_3))
def lw_tbl : List Cond := k2_sels lw_privs ++ tables_1
theorem lw_privs_ok : ∀ q ∈ lw_privs, lw_okq q := by
  show ∀ q ∈ lw_privs_1 ++ (lw_privs_2 ++ (lw_privs_3)), lw_okq q
  exact List.forall_mem_append.mpr ⟨lw_r1, List.forall_mem_append.mpr ⟨lw_r2, lw_r3⟩⟩
-- ===== end of PART A; then your names; then what follows =====
/-! ===== BEGIN printed: names, fields, word lists, decode rows ===== -/
def RX0 : String := "SafetyPins$Acts"
def TX0 : u_T := fun k => match k with
  | 0 => ("SafetyPins$Acts", "befores", "[LSafetyPins$Plight;", true)
  | 1 => ("SafetyPins$Acts", "top", "I", false)
  | _ => ("SafetyPins$Acts", "length", "I", false)
def tyX0 : Nat → FieldType := fun k => match k with
  | 0 => .array (.object "SafetyPins$Plight")
  | 1 => .int
  | _ => .int
theorem nmX0 : ∀ a, a < 3 → ∀ b, b < 3 → a ≠ b → (TX0 a).2.1 ≠ (TX0 b).2.1 := by decide +kernel
theorem tyX0_ok : ∀ k, k < 3 → parseFieldDescriptor (TX0 k).2.2.1 = some (tyX0 k) := by decide +kernel
abbrev cX0_init : ByteArray := prog_2_method_1_code
def yX0_init : MethodName := ⟨RX0, "<init>", "()V"⟩
abbrev cX0_forget : ByteArray := prog_2_method_2_code
def yX0_forget : MethodName := ⟨RX0, "forget", "()V"⟩
abbrev cX0_remember : ByteArray := prog_2_method_3_code
def yX0_remember : MethodName := ⟨RX0, "remember", "(LSafetyPins$Plight;)V"⟩
abbrev cX0_takeBack : ByteArray := prog_2_method_4_code
def yX0_takeBack : MethodName := ⟨RX0, "takeBack", "(LSafetyPins$Plight;)V"⟩
def RX1 : String := "SafetyPins$Forces"
def TX1 : u_T := fun k => match k with
  | 0 => ("SafetyPins$Forces", "town", "LSafetyPins$Town;", true)
  | _ => ("SafetyPins$Forces", "loads", "[I", true)
def tyX1 : Nat → FieldType := fun k => match k with
  | 0 => .object "SafetyPins$Town"
  | _ => .array .int
theorem nmX1 : ∀ a, a < 2 → ∀ b, b < 2 → a ≠ b → (TX1 a).2.1 ≠ (TX1 b).2.1 := by decide +kernel
theorem tyX1_ok : ∀ k, k < 2 → parseFieldDescriptor (TX1 k).2.2.1 = some (tyX1 k) := by decide +kernel
abbrev cX1_init : ByteArray := prog_3_method_1_code
def yX1_init : MethodName := ⟨RX1, "<init>", "(LSafetyPins$Town;)V"⟩
abbrev cX1_clear : ByteArray := prog_3_method_2_code
def yX1_clear : MethodName := ⟨RX1, "clear", "()V"⟩
abbrev cX1_burden : ByteArray := prog_3_method_3_code
def yX1_burden : MethodName := ⟨RX1, "burden", "(II)V"⟩
abbrev cX1_burdenEnds : ByteArray := prog_3_method_4_code
def yX1_burdenEnds : MethodName := ⟨RX1, "burdenEnds", "(I)V"⟩
abbrev cX1_loadOf : ByteArray := prog_3_method_5_code
def yX1_loadOf : MethodName := ⟨RX1, "loadOf", "(I)I"⟩
abbrev cX1_ping : ByteArray := prog_3_method_6_code
def yX1_ping : MethodName := ⟨RX1, "ping", "(LSafetyPins$Plight;)I"⟩
abbrev cX1_givingNow : ByteArray := prog_3_method_7_code
def yX1_givingNow : MethodName := ⟨RX1, "givingNow", "(LSafetyPins$Plight;)I"⟩
abbrev cX1_pullAt : ByteArray := prog_3_method_8_code
def yX1_pullAt : MethodName := ⟨RX1, "pullAt", "(LSafetyPins$Plight;II)I"⟩
abbrev cX1_passDay : ByteArray := prog_3_method_9_code
def yX1_passDay : MethodName := ⟨RX1, "passDay", "(LSafetyPins$Plight;)I"⟩
abbrev cX1_springShut : ByteArray := prog_3_method_10_code
def yX1_springShut : MethodName := ⟨RX1, "springShut", "(LSafetyPins$Plight;)V"⟩
abbrev cX1_wearDown : ByteArray := prog_3_method_11_code
def yX1_wearDown : MethodName := ⟨RX1, "wearDown", "(LSafetyPins$Plight;)V"⟩
def RX2 : String := "SafetyPins$Plight"
def TX2 : u_T := fun k => match k with
  | 0 => ("SafetyPins$Plight", "open", "I", false)
  | 1 => ("SafetyPins$Plight", "wear", "[I", true)
  | _ => ("SafetyPins$Plight", "dayNumber", "I", false)
def tyX2 : Nat → FieldType := fun k => match k with
  | 0 => .int
  | 1 => .array .int
  | _ => .int
theorem nmX2 : ∀ a, a < 3 → ∀ b, b < 3 → a ≠ b → (TX2 a).2.1 ≠ (TX2 b).2.1 := by decide +kernel
theorem tyX2_ok : ∀ k, k < 3 → parseFieldDescriptor (TX2 k).2.2.1 = some (tyX2 k) := by decide +kernel
abbrev cX2_init : ByteArray := prog_4_method_1_code
def yX2_init : MethodName := ⟨RX2, "<init>", "()V"⟩
abbrev cX2_begin : ByteArray := prog_4_method_2_code
def yX2_begin : MethodName := ⟨RX2, "begin", "()V"⟩
abbrev cX2_become : ByteArray := prog_4_method_3_code
def yX2_become : MethodName := ⟨RX2, "become", "(LSafetyPins$Plight;)V"⟩
abbrev cX2_isOpen : ByteArray := prog_4_method_4_code
def yX2_isOpen : MethodName := ⟨RX2, "isOpen", "(I)Z"⟩
abbrev cX2_close : ByteArray := prog_4_method_5_code
def yX2_close : MethodName := ⟨RX2, "close", "(I)V"⟩
abbrev cX2_unpin : ByteArray := prog_4_method_6_code
def yX2_unpin : MethodName := ⟨RX2, "unpin", "(I)V"⟩
abbrev cX2_wearOfAll : ByteArray := prog_4_method_7_code
def yX2_wearOfAll : MethodName := ⟨RX2, "wearOfAll", "()I"⟩
def RX3 : String := "SafetyPins$Script"
def TX3 : u_T := fun k => match k with
  | 0 => ("SafetyPins$Script", "letters", "[I", true)
  | _ => ("SafetyPins$Script", "length", "I", false)
def tyX3 : Nat → FieldType := fun k => match k with
  | 0 => .array .int
  | _ => .int
theorem nmX3 : ∀ a, a < 2 → ∀ b, b < 2 → a ≠ b → (TX3 a).2.1 ≠ (TX3 b).2.1 := by decide +kernel
theorem tyX3_ok : ∀ k, k < 2 → parseFieldDescriptor (TX3 k).2.2.1 = some (tyX3 k) := by decide +kernel
abbrev cX3_init : ByteArray := prog_5_method_1_code
def yX3_init : MethodName := ⟨RX3, "<init>", "()V"⟩
abbrev cX3_add : ByteArray := prog_5_method_2_code
def yX3_add : MethodName := ⟨RX3, "add", "(I)V"⟩
abbrev cX3_figure : ByteArray := prog_5_method_3_code
def yX3_figure : MethodName := ⟨RX3, "figure", "(I)I"⟩
abbrev cX3_sizeOfPart : ByteArray := prog_5_method_4_code
def yX3_sizeOfPart : MethodName := ⟨RX3, "sizeOfPart", "(I)I"⟩
abbrev cX3_mostOf : ByteArray := prog_5_method_5_code
def yX3_mostOf : MethodName := ⟨RX3, "mostOf", "(I)I"⟩
abbrev cX3_firstFault : ByteArray := prog_5_method_6_code
def yX3_firstFault : MethodName := ⟨RX3, "firstFault", "()I"⟩
abbrev cX3_canBegin : ByteArray := prog_5_method_7_code
def yX3_canBegin : MethodName := ⟨RX3, "canBegin", "(I)Z"⟩
abbrev cX3_canGoOn : ByteArray := prog_5_method_8_code
def yX3_canGoOn : MethodName := ⟨RX3, "canGoOn", "(II)Z"⟩
def RX4 : String := "SafetyPins$Town"
def TX4 : u_T := fun k => match k with
  | 0 => ("SafetyPins$Town", "pins", "I", false)
  | 1 => ("SafetyPins$Town", "one", "[I", true)
  | 2 => ("SafetyPins$Town", "other", "[I", true)
  | 3 => ("SafetyPins$Town", "strength", "[I", true)
  | 4 => ("SafetyPins$Town", "kind", "[I", true)
  | 5 => ("SafetyPins$Town", "pulls", "I", false)
  | 6 => ("SafetyPins$Town", "pullThing", "[I", true)
  | 7 => ("SafetyPins$Town", "pullLoad", "[I", true)
  | 8 => ("SafetyPins$Town", "deeds", "I", false)
  | 9 => ("SafetyPins$Town", "deedOne", "[I", true)
  | _ => ("SafetyPins$Town", "deedOther", "[I", true)
def tyX4 : Nat → FieldType := fun k => match k with
  | 0 => .int
  | 1 => .array .int
  | 2 => .array .int
  | 3 => .array .int
  | 4 => .array .int
  | 5 => .int
  | 6 => .array .int
  | 7 => .array .int
  | 8 => .int
  | 9 => .array .int
  | _ => .array .int
theorem nmX4 : ∀ a, a < 11 → ∀ b, b < 11 → a ≠ b → (TX4 a).2.1 ≠ (TX4 b).2.1 := by decide +kernel
theorem tyX4_ok : ∀ k, k < 11 → parseFieldDescriptor (TX4 k).2.2.1 = some (tyX4 k) := by decide +kernel
abbrev cX4_init : ByteArray := prog_6_method_1_code
def yX4_init : MethodName := ⟨RX4, "<init>", "()V"⟩
abbrev cX4_readFrom : ByteArray := prog_6_method_2_code
def yX4_readFrom : MethodName := ⟨RX4, "readFrom", "(LSafetyPins$Script;)V"⟩
abbrev cX4_addPin : ByteArray := prog_6_method_3_code
def yX4_addPin : MethodName := ⟨RX4, "addPin", "(LSafetyPins$Script;I)V"⟩
abbrev cX4_allPins : ByteArray := prog_6_method_4_code
def yX4_allPins : MethodName := ⟨RX4, "allPins", "()I"⟩
abbrev cX4_holds : ByteArray := prog_6_method_5_code
def yX4_holds : MethodName := ⟨RX4, "holds", "(II)I"⟩
abbrev cX4_endsOf : ByteArray := prog_6_method_6_code
def yX4_endsOf : MethodName := ⟨RX4, "endsOf", "(I)I"⟩
abbrev cX4_reach : ByteArray := prog_6_method_7_code
def yX4_reach : MethodName := ⟨RX4, "reach", "(II)I"⟩
abbrev cX4_areTogether : ByteArray := prog_6_method_8_code
def yX4_areTogether : MethodName := ⟨RX4, "areTogether", "(III)Z"⟩
abbrev cX4_pairsTogether : ByteArray := prog_6_method_9_code
def yX4_pairsTogether : MethodName := ⟨RX4, "pairsTogether", "(I)I"⟩
abbrev cX4_doable : ByteArray := prog_6_method_10_code
def yX4_doable : MethodName := ⟨RX4, "doable", "(I)I"⟩
def RX5 : String := "SafetyPins$Trials"
def TX5 : u_T := fun k => match k with
  | 0 => ("SafetyPins$Trials", "load", "[I", true)
  | 1 => ("SafetyPins$Trials", "gave", "[Z", true)
  | _ => ("SafetyPins$Trials", "length", "I", false)
def tyX5 : Nat → FieldType := fun k => match k with
  | 0 => .array .int
  | 1 => .array .boolean
  | _ => .int
theorem nmX5 : ∀ a, a < 3 → ∀ b, b < 3 → a ≠ b → (TX5 a).2.1 ≠ (TX5 b).2.1 := by decide +kernel
theorem tyX5_ok : ∀ k, k < 3 → parseFieldDescriptor (TX5 k).2.2.1 = some (tyX5 k) := by decide +kernel
abbrev cX5_init : ByteArray := prog_7_method_1_code
def yX5_init : MethodName := ⟨RX5, "<init>", "()V"⟩
abbrev cX5_add : ByteArray := prog_7_method_2_code
def yX5_add : MethodName := ⟨RX5, "add", "(IZ)V"⟩
abbrev cX5_agreeWith : ByteArray := prog_7_method_3_code
def yX5_agreeWith : MethodName := ⟨RX5, "agreeWith", "(II)Z"⟩
def RX6 : String := "SafetyPins"
def TX6 : u_T := fun k => match k with
  | 0 => ("SafetyPins", "script", "LSafetyPins$Script;", true)
  | 1 => ("SafetyPins", "made", "LSafetyPins$Town;", true)
  | 2 => ("SafetyPins", "forces", "LSafetyPins$Forces;", true)
  | 3 => ("SafetyPins", "now", "LSafetyPins$Plight;", true)
  | 4 => ("SafetyPins", "thought", "LSafetyPins$Plight;", true)
  | 5 => ("SafetyPins", "acts", "LSafetyPins$Acts;", true)
  | 6 => ("SafetyPins", "kept", "[LSafetyPins$Plight;", true)
  | 7 => ("SafetyPins", "isKept", "[Z", true)
  | 8 => ("SafetyPins", "tried", "LSafetyPins$Trials;", true)
  | 9 => ("SafetyPins", "oneGains", "[I", true)
  | 10 => ("SafetyPins", "otherGains", "[I", true)
  | _ => ("SafetyPins", "seedNow", "J", false)
def tyX6 : Nat → FieldType := fun k => match k with
  | 0 => .object "SafetyPins$Script"
  | 1 => .object "SafetyPins$Town"
  | 2 => .object "SafetyPins$Forces"
  | 3 => .object "SafetyPins$Plight"
  | 4 => .object "SafetyPins$Plight"
  | 5 => .object "SafetyPins$Acts"
  | 6 => .array (.object "SafetyPins$Plight")
  | 7 => .array .boolean
  | 8 => .object "SafetyPins$Trials"
  | 9 => .array .int
  | 10 => .array .int
  | _ => .long
theorem nmX6 : ∀ a, a < 12 → ∀ b, b < 12 → a ≠ b → (TX6 a).2.1 ≠ (TX6 b).2.1 := by decide +kernel
theorem tyX6_ok : ∀ k, k < 12 → parseFieldDescriptor (TX6 k).2.2.1 = some (tyX6 k) := by decide +kernel
abbrev cX6_init : ByteArray := prog_1_method_1_code
def yX6_init : MethodName := ⟨RX6, "<init>", "()V"⟩
abbrev cX6_write : ByteArray := prog_1_method_2_code
def yX6_write : MethodName := ⟨RX6, "write", "(I)I"⟩
abbrev cX6_wipe : ByteArray := prog_1_method_3_code
def yX6_wipe : MethodName := ⟨RX6, "wipe", "()I"⟩
abbrev cX6_fault : ByteArray := prog_1_method_4_code
def yX6_fault : MethodName := ⟨RX6, "fault", "()I"⟩
abbrev cX6_town : ByteArray := prog_1_method_5_code
def yX6_town : MethodName := ⟨RX6, "town", "()I"⟩
abbrev cX6_pin : ByteArray := prog_1_method_6_code
def yX6_pin : MethodName := ⟨RX6, "pin", "(II)I"⟩
abbrev cX6_with : ByteArray := prog_1_method_7_code
def yX6_with : MethodName := ⟨RX6, "with", "(I)I"⟩
abbrev cX6_day : ByteArray := prog_1_method_8_code
def yX6_day : MethodName := ⟨RX6, "day", "()I"⟩
abbrev cX6_tug : ByteArray := prog_1_method_9_code
def yX6_tug : MethodName := ⟨RX6, "tug", "(II)I"⟩
abbrev cX6_shut : ByteArray := prog_1_method_10_code
def yX6_shut : MethodName := ⟨RX6, "shut", "(I)I"⟩
abbrev cX6_open : ByteArray := prog_1_method_11_code
def yX6_open : MethodName := ⟨RX6, "open", "(I)I"⟩
abbrev cX6_undo : ByteArray := prog_1_method_12_code
def yX6_undo : MethodName := ⟨RX6, "undo", "()I"⟩
abbrev cX6_later : ByteArray := prog_1_method_13_code
def yX6_later : MethodName := ⟨RX6, "later", "(I)I"⟩
abbrev cX6_lasts : ByteArray := prog_1_method_14_code
def yX6_lasts : MethodName := ⟨RX6, "lasts", "(I)I"⟩
abbrev cX6_chain : ByteArray := prog_1_method_15_code
def yX6_chain : MethodName := ⟨RX6, "chain", "(I)I"⟩
abbrev cX6_cuts : ByteArray := prog_1_method_16_code
def yX6_cuts : MethodName := ⟨RX6, "cuts", "(II)I"⟩
abbrev cX6_parts : ByteArray := prog_1_method_17_code
def yX6_parts : MethodName := ⟨RX6, "parts", "(III)I"⟩
abbrev cX6_letsGo : ByteArray := prog_1_method_18_code
def yX6_letsGo : MethodName := ⟨RX6, "letsGo", "(I)I"⟩
abbrev cX6_judge : ByteArray := prog_1_method_19_code
def yX6_judge : MethodName := ⟨RX6, "judge", "(IJ)I"⟩
abbrev cX6_trial : ByteArray := prog_1_method_20_code
def yX6_trial : MethodName := ⟨RX6, "trial", "(II)I"⟩
abbrev cX6_untry : ByteArray := prog_1_method_21_code
def yX6_untry : MethodName := ⟨RX6, "untry", "()I"⟩
abbrev cX6_which : ByteArray := prog_1_method_22_code
def yX6_which : MethodName := ⟨RX6, "which", "(I)I"⟩
abbrev cX6_share : ByteArray := prog_1_method_23_code
def yX6_share : MethodName := ⟨RX6, "share", "(IZ)I"⟩
abbrev cX6_rests : ByteArray := prog_1_method_24_code
def yX6_rests : MethodName := ⟨RX6, "rests", "(III)I"⟩
abbrev cX6_gives : ByteArray := prog_1_method_25_code
def yX6_gives : MethodName := ⟨RX6, "gives", "(IIIZ)I"⟩
abbrev cX6_seed : ByteArray := prog_1_method_26_code
def yX6_seed : MethodName := ⟨RX6, "seed", "(J)J"⟩
abbrev cX6_seasons : ByteArray := prog_1_method_27_code
def yX6_seasons : MethodName := ⟨RX6, "seasons", "(I)I"⟩
abbrev cX6_keep : ByteArray := prog_1_method_28_code
def yX6_keep : MethodName := ⟨RX6, "keep", "(I)I"⟩
abbrev cX6_again : ByteArray := prog_1_method_29_code
def yX6_again : MethodName := ⟨RX6, "again", "(I)I"⟩
abbrev cX6_count : ByteArray := prog_1_method_30_code
def yX6_count : MethodName := ⟨RX6, "count", "(I)I"⟩
abbrev cX6_isThing : ByteArray := prog_1_method_31_code
def yX6_isThing : MethodName := ⟨RX6, "isThing", "(I)Z"⟩
abbrev cX6_isPin : ByteArray := prog_1_method_32_code
def yX6_isPin : MethodName := ⟨RX6, "isPin", "(I)Z"⟩
abbrev cX6_refusalOfTwo : ByteArray := prog_1_method_33_code
def yX6_refusalOfTwo : MethodName := ⟨RX6, "refusalOfTwo", "(II)I"⟩
abbrev cX6_isBetterCut : ByteArray := prog_1_method_34_code
def yX6_isBetterCut : MethodName := ⟨RX6, "isBetterCut", "(II)Z"⟩
abbrev cX6_firstThatParts : ByteArray := prog_1_method_35_code
def yX6_firstThatParts : MethodName := ⟨RX6, "firstThatParts", "(III)I"⟩
abbrev cX6_comesTrue : ByteArray := prog_1_method_36_code
def yX6_comesTrue : MethodName := ⟨RX6, "comesTrue", "(III)Z"⟩
abbrev cX6_closesInThought : ByteArray := prog_1_method_37_code
def yX6_closesInThought : MethodName := ⟨RX6, "closesInThought", "(I)Z"⟩
abbrev cX6_unpinsInThought : ByteArray := prog_1_method_38_code
def yX6_unpinsInThought : MethodName := ⟨RX6, "unpinsInThought", "(I)Z"⟩
abbrev cX6_passSeason : ByteArray := prog_1_method_39_code
def yX6_passSeason : MethodName := ⟨RX6, "passSeason", "(I)V"⟩
abbrev cX6_pairsBroughtInAllOrders : ByteArray := prog_1_method_40_code
def yX6_pairsBroughtInAllOrders : MethodName := ⟨RX6, "pairsBroughtInAllOrders", "(III)J"⟩
abbrev cX6_reckonGains : ByteArray := prog_1_method_41_code
def yX6_reckonGains : MethodName := ⟨RX6, "reckonGains", "(II)V"⟩
abbrev cX6_priceOfBeingAlone : ByteArray := prog_1_method_42_code
def yX6_priceOfBeingAlone : MethodName := ⟨RX6, "priceOfBeingAlone", "(I)I"⟩
abbrev cX6_isAtRest : ByteArray := prog_1_method_43_code
def yX6_isAtRest : MethodName := ⟨RX6, "isAtRest", "(II)Z"⟩
abbrev cX6_power : ByteArray := prog_1_method_44_code
def yX6_power : MethodName := ⟨RX6, "power", "(II)J"⟩
abbrev cX6_inLeastTerms : ByteArray := prog_1_method_45_code
def yX6_inLeastTerms : MethodName := ⟨RX6, "inLeastTerms", "(JJZ)I"⟩
abbrev cX6_commonDivisor : ByteArray := prog_1_method_46_code
def yX6_commonDivisor : MethodName := ⟨RX6, "commonDivisor", "(JJ)J"⟩
def RX7 : String := "SafetyPinsModel"
def TX7 : u_T := fun k => match k with
  | 0 => ("SafetyPinsModel", "pins", "I", false)
  | 1 => ("SafetyPinsModel", "pulls", "I", false)
  | 2 => ("SafetyPinsModel", "deeds", "I", false)
  | 3 => ("SafetyPinsModel", "end", "[I", true)
  | 4 => ("SafetyPinsModel", "otherEnd", "[I", true)
  | 5 => ("SafetyPinsModel", "strength", "[I", true)
  | 6 => ("SafetyPinsModel", "kind", "[I", true)
  | 7 => ("SafetyPinsModel", "pulled", "[I", true)
  | 8 => ("SafetyPinsModel", "pull", "[I", true)
  | 9 => ("SafetyPinsModel", "deedOne", "[I", true)
  | 10 => ("SafetyPinsModel", "deedOther", "[I", true)
  | 11 => ("SafetyPinsModel", "now", "[I", true)
  | 12 => ("SafetyPinsModel", "readPin", "[I", true)
  | 13 => ("SafetyPinsModel", "readPull", "[I", true)
  | 14 => ("SafetyPinsModel", "readDeed", "[I", true)
  | 15 => ("SafetyPinsModel", "readPins", "I", false)
  | 16 => ("SafetyPinsModel", "readPulls", "I", false)
  | 17 => ("SafetyPinsModel", "readDeeds", "I", false)
  | 18 => ("SafetyPinsModel", "text", "[I", true)
  | 19 => ("SafetyPinsModel", "length", "I", false)
  | 20 => ("SafetyPinsModel", "at", "I", false)
  | 21 => ("SafetyPinsModel", "faultAt", "I", false)
  | 22 => ("SafetyPinsModel", "load", "[I", true)
  | 23 => ("SafetyPinsModel", "acts", "I", false)
  | 24 => ("SafetyPinsModel", "next", "I", false)
  | 25 => ("SafetyPinsModel", "row", "[I", true)
  | 26 => ("SafetyPinsModel", "tried", "I", false)
  | 27 => ("SafetyPinsModel", "triedLoad", "[I", true)
  | 28 => ("SafetyPinsModel", "triedGave", "[I", true)
  | 29 => ("SafetyPinsModel", "seed", "J", false)
  | 30 => ("SafetyPinsModel", "isKept", "[Z", true)
  | _ => ("SafetyPinsModel", "kept", "[I", true)
def tyX7 : Nat → FieldType := fun k => match k with
  | 0 => .int
  | 1 => .int
  | 2 => .int
  | 3 => .array .int
  | 4 => .array .int
  | 5 => .array .int
  | 6 => .array .int
  | 7 => .array .int
  | 8 => .array .int
  | 9 => .array .int
  | 10 => .array .int
  | 11 => .array .int
  | 12 => .array .int
  | 13 => .array .int
  | 14 => .array .int
  | 15 => .int
  | 16 => .int
  | 17 => .int
  | 18 => .array .int
  | 19 => .int
  | 20 => .int
  | 21 => .int
  | 22 => .array .int
  | 23 => .int
  | 24 => .int
  | 25 => .array .int
  | 26 => .int
  | 27 => .array .int
  | 28 => .array .int
  | 29 => .long
  | 30 => .array .boolean
  | _ => .array .int
theorem nmX7 : ∀ a, a < 32 → ∀ b, b < 32 → a ≠ b → (TX7 a).2.1 ≠ (TX7 b).2.1 := by decide +kernel
theorem tyX7_ok : ∀ k, k < 32 → parseFieldDescriptor (TX7 k).2.2.1 = some (tyX7 k) := by decide +kernel
abbrev cX7_init : ByteArray := prog_9_method_1_code
def yX7_init : MethodName := ⟨RX7, "<init>", "()V"⟩
abbrev cX7_in : ByteArray := prog_9_method_3_code
def yX7_in : MethodName := ⟨RX7, "in", "(JJJ)Z"⟩
abbrev cX7_has : ByteArray := prog_9_method_4_code
def yX7_has : MethodName := ⟨RX7, "has", "(II)Z"⟩
abbrev cX7_ones : ByteArray := prog_9_method_5_code
def yX7_ones : MethodName := ⟨RX7, "ones", "(I)I"⟩
abbrev cX7_write : ByteArray := prog_9_method_6_code
def yX7_write : MethodName := ⟨RX7, "write", "(I)I"⟩
abbrev cX7_wipe : ByteArray := prog_9_method_7_code
def yX7_wipe : MethodName := ⟨RX7, "wipe", "()I"⟩
abbrev cX7_figureOf : ByteArray := prog_9_method_8_code
def yX7_figureOf : MethodName := ⟨RX7, "figureOf", "(II)I"⟩
abbrev cX7_readText : ByteArray := prog_9_method_9_code
def yX7_readText : MethodName := ⟨RX7, "readText", "()I"⟩
abbrev cX7_readPart : ByteArray := prog_9_method_10_code
def yX7_readPart : MethodName := ⟨RX7, "readPart", "(I)V"⟩
abbrev cX7_fault : ByteArray := prog_9_method_11_code
def yX7_fault : MethodName := ⟨RX7, "fault", "()I"⟩
abbrev cX7_town : ByteArray := prog_9_method_12_code
def yX7_town : MethodName := ⟨RX7, "town", "()I"⟩
abbrev cX7_isPin : ByteArray := prog_9_method_13_code
def yX7_isPin : MethodName := ⟨RX7, "isPin", "(I)Z"⟩
abbrev cX7_isThing : ByteArray := prog_9_method_14_code
def yX7_isThing : MethodName := ⟨RX7, "isThing", "(I)Z"⟩
abbrev cX7_all : ByteArray := prog_9_method_15_code
def yX7_all : MethodName := ⟨RX7, "all", "()I"⟩
abbrev cX7_withBy : ByteArray := prog_9_method_16_code
def yX7_withBy : MethodName := ⟨RX7, "withBy", "(II)I"⟩
abbrev cX7_isTogether : ByteArray := prog_9_method_17_code
def yX7_isTogether : MethodName := ⟨RX7, "isTogether", "(III)Z"⟩
abbrev cX7_pairsBy : ByteArray := prog_9_method_18_code
def yX7_pairsBy : MethodName := ⟨RX7, "pairsBy", "(I)I"⟩
abbrev cX7_doableBy : ByteArray := prog_9_method_19_code
def yX7_doableBy : MethodName := ⟨RX7, "doableBy", "(I)I"⟩
abbrev cX7_unload : ByteArray := prog_9_method_20_code
def yX7_unload : MethodName := ⟨RX7, "unload", "()V"⟩
abbrev cX7_holdsOn : ByteArray := prog_9_method_21_code
def yX7_holdsOn : MethodName := ⟨RX7, "holdsOn", "(II)I"⟩
abbrev cX7_onBoth : ByteArray := prog_9_method_22_code
def yX7_onBoth : MethodName := ⟨RX7, "onBoth", "(I)I"⟩
abbrev cX7_ping : ByteArray := prog_9_method_23_code
def yX7_ping : MethodName := ⟨RX7, "ping", "(I)I"⟩
abbrev cX7_tugOn : ByteArray := prog_9_method_24_code
def yX7_tugOn : MethodName := ⟨RX7, "tugOn", "(III)I"⟩
abbrev cX7_passOn : ByteArray := prog_9_method_25_code
def yX7_passOn : MethodName := ⟨RX7, "passOn", "(I)I"⟩
abbrev cX7_shutOn : ByteArray := prog_9_method_26_code
def yX7_shutOn : MethodName := ⟨RX7, "shutOn", "(II)V"⟩
abbrev cX7_pin : ByteArray := prog_9_method_27_code
def yX7_pin : MethodName := ⟨RX7, "pin", "(II)I"⟩
abbrev cX7_with : ByteArray := prog_9_method_28_code
def yX7_with : MethodName := ⟨RX7, "with", "(I)I"⟩
abbrev cX7_keepAct : ByteArray := prog_9_method_29_code
def yX7_keepAct : MethodName := ⟨RX7, "keepAct", "()V"⟩
abbrev cX7_day : ByteArray := prog_9_method_30_code
def yX7_day : MethodName := ⟨RX7, "day", "()I"⟩
abbrev cX7_tug : ByteArray := prog_9_method_31_code
def yX7_tug : MethodName := ⟨RX7, "tug", "(II)I"⟩
abbrev cX7_shut : ByteArray := prog_9_method_32_code
def yX7_shut : MethodName := ⟨RX7, "shut", "(I)I"⟩
abbrev cX7_open : ByteArray := prog_9_method_33_code
def yX7_open : MethodName := ⟨RX7, "open", "(I)I"⟩
abbrev cX7_undo : ByteArray := prog_9_method_34_code
def yX7_undo : MethodName := ⟨RX7, "undo", "()I"⟩
abbrev cX7_layTrial : ByteArray := prog_9_method_35_code
def yX7_layTrial : MethodName := ⟨RX7, "layTrial", "()V"⟩
abbrev cX7_later : ByteArray := prog_9_method_36_code
def yX7_later : MethodName := ⟨RX7, "later", "(I)I"⟩
abbrev cX7_lasts : ByteArray := prog_9_method_37_code
def yX7_lasts : MethodName := ⟨RX7, "lasts", "(I)I"⟩
abbrev cX7_chain : ByteArray := prog_9_method_38_code
def yX7_chain : MethodName := ⟨RX7, "chain", "(I)I"⟩
abbrev cX7_cuts : ByteArray := prog_9_method_39_code
def yX7_cuts : MethodName := ⟨RX7, "cuts", "(II)I"⟩
abbrev cX7_parts : ByteArray := prog_9_method_40_code
def yX7_parts : MethodName := ⟨RX7, "parts", "(III)I"⟩
abbrev cX7_letsGo : ByteArray := prog_9_method_41_code
def yX7_letsGo : MethodName := ⟨RX7, "letsGo", "(I)I"⟩
abbrev cX7_tryThing : ByteArray := prog_9_method_42_code
def yX7_tryThing : MethodName := ⟨RX7, "tryThing", "(III)Z"⟩
abbrev cX7_thousandTo : ByteArray := prog_9_method_43_code
def yX7_thousandTo : MethodName := ⟨RX7, "thousandTo", "(I)J"⟩
abbrev cX7_judge : ByteArray := prog_9_method_44_code
def yX7_judge : MethodName := ⟨RX7, "judge", "(IJ)I"⟩
abbrev cX7_trial : ByteArray := prog_9_method_45_code
def yX7_trial : MethodName := ⟨RX7, "trial", "(II)I"⟩
abbrev cX7_untry : ByteArray := prog_9_method_46_code
def yX7_untry : MethodName := ⟨RX7, "untry", "()I"⟩
abbrev cX7_which : ByteArray := prog_9_method_47_code
def yX7_which : MethodName := ⟨RX7, "which", "(I)I"⟩
abbrev cX7_factorial : ByteArray := prog_9_method_48_code
def yX7_factorial : MethodName := ⟨RX7, "factorial", "(I)I"⟩
abbrev cX7_common : ByteArray := prog_9_method_49_code
def yX7_common : MethodName := ⟨RX7, "common", "(II)I"⟩
abbrev cX7_share : ByteArray := prog_9_method_50_code
def yX7_share : MethodName := ⟨RX7, "share", "(IZ)I"⟩
abbrev cX7_gain : ByteArray := prog_9_method_51_code
def yX7_gain : MethodName := ⟨RX7, "gain", "(IIII)I"⟩
abbrev cX7_isRest : ByteArray := prog_9_method_52_code
def yX7_isRest : MethodName := ⟨RX7, "isRest", "(IIII)Z"⟩
abbrev cX7_rests : ByteArray := prog_9_method_53_code
def yX7_rests : MethodName := ⟨RX7, "rests", "(III)I"⟩
abbrev cX7_power : ByteArray := prog_9_method_54_code
def yX7_power : MethodName := ⟨RX7, "power", "(II)I"⟩
abbrev cX7_gives : ByteArray := prog_9_method_55_code
def yX7_gives : MethodName := ⟨RX7, "gives", "(IIIZ)I"⟩
abbrev cX7_seed : ByteArray := prog_9_method_56_code
def yX7_seed : MethodName := ⟨RX7, "seed", "(J)J"⟩
abbrev cX7_seasons : ByteArray := prog_9_method_57_code
def yX7_seasons : MethodName := ⟨RX7, "seasons", "(I)I"⟩
abbrev cX7_keep : ByteArray := prog_9_method_58_code
def yX7_keep : MethodName := ⟨RX7, "keep", "(I)I"⟩
abbrev cX7_again : ByteArray := prog_9_method_59_code
def yX7_again : MethodName := ⟨RX7, "again", "(I)I"⟩
abbrev cX7_wearOfAll : ByteArray := prog_9_method_60_code
def yX7_wearOfAll : MethodName := ⟨RX7, "wearOfAll", "()I"⟩
abbrev cX7_count : ByteArray := prog_9_method_61_code
def yX7_count : MethodName := ⟨RX7, "count", "(I)I"⟩
def RJ6 : String := "java/lang/Integer"
def TJ6 : u_T := fun k => match k with
  | _ => ("", "", "", false)
def tyJ6 : Nat → FieldType := fun k => match k with
  | _ => .int
theorem nmJ6 : ∀ a, a < 0 → ∀ b, b < 0 → a ≠ b → (TJ6 a).2.1 ≠ (TJ6 b).2.1 := by decide +kernel
theorem tyJ6_ok : ∀ k, k < 0 → parseFieldDescriptor (TJ6 k).2.2.1 = some (tyJ6 k) := by decide +kernel
abbrev cJ6_bitCount_0f7a4 : ByteArray := prog_10_method_49_code
def yJ6_bitCount_0f7a4 : MethodName := ⟨RJ6, "bitCount", "(I)I"⟩
def RJ9 : String := "java/lang/Math"
def TJ9 : u_T := fun k => match k with
  | _ => ("", "", "", false)
def tyJ9 : Nat → FieldType := fun k => match k with
  | _ => .int
theorem nmJ9 : ∀ a, a < 0 → ∀ b, b < 0 → a ≠ b → (TJ9 a).2.1 ≠ (TJ9 b).2.1 := by decide +kernel
theorem tyJ9_ok : ∀ k, k < 0 → parseFieldDescriptor (TJ9 k).2.2.1 = some (tyJ9 k) := by decide +kernel
abbrev cJ9_floorMod_7cf53 : ByteArray := prog_11_method_50_code
def yJ9_floorMod_7cf53 : MethodName := ⟨RJ9, "floorMod", "(II)I"⟩
abbrev cJ9_max_7cf53 : ByteArray := prog_11_method_65_code
def yJ9_max_7cf53 : MethodName := ⟨RJ9, "max", "(II)I"⟩
abbrev cJ9_max_f86c9 : ByteArray := prog_11_method_66_code
def yJ9_max_f86c9 : MethodName := ⟨RJ9, "max", "(JJ)J"⟩
abbrev cJ9_min_7cf53 : ByteArray := prog_11_method_69_code
def yJ9_min_7cf53 : MethodName := ⟨RJ9, "min", "(II)I"⟩
def RL : String := "SafetyPinsLaw"
abbrev cL_law : ByteArray := code
def yL_law : MethodName := ⟨RL, "law", "([I)Z"⟩
abbrev vwCl : List vw_C := [(RX0, TX0, 3), (RX1, TX1, 2), (RX2, TX2, 3), (RX3, TX3, 2), (RX4, TX4, 11), (RX5, TX5, 3), (RX6, TX6, 12), (RX7, TX7, 32)]
