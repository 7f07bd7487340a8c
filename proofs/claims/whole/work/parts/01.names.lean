/-- a private method of a class that the tables say can be made, by its rows of tables_1 -/
def lw_okq (q : MethodName × Nat) : Prop := (q.1.cls ≠ "java/lang/invoke/MethodHandle" ∧ q.1.cls ≠ "java/lang/invoke/VarHandle") ∧ Cond.instantiable q.1.cls q.2 ∈ tables_1 ∧ Cond.privateMethod q.1 ∈ tables_1 ∧ Cond.instanceMethod q.1 ∈ tables_1
theorem lw_p0 : lw_okq (⟨"ShipCut", "sectionAt", "(I)LShipCut$Section;"⟩, 11) := ⟨⟨by decide +kernel, by decide +kernel⟩, List.mem_of_getElem? (i := 10) (by decide +kernel), List.mem_of_getElem? (i := 129) (by decide +kernel), List.mem_of_getElem? (i := 130) (by decide +kernel)⟩
theorem lw_p1 : lw_okq (⟨"ShipCut", "convoyAt", "(I)LShipCut$Convoy;"⟩, 11) := ⟨⟨by decide +kernel, by decide +kernel⟩, List.mem_of_getElem? (i := 10) (by decide +kernel), List.mem_of_getElem? (i := 266) (by decide +kernel), List.mem_of_getElem? (i := 267) (by decide +kernel)⟩
theorem lw_p2 : lw_okq (⟨"ShipCut", "startConvoys", "()V"⟩, 11) := ⟨⟨by decide +kernel, by decide +kernel⟩, List.mem_of_getElem? (i := 10) (by decide +kernel), List.mem_of_getElem? (i := 290) (by decide +kernel), List.mem_of_getElem? (i := 291) (by decide +kernel)⟩
theorem lw_p3 : lw_okq (⟨"ShipCut", "joinLine", "(LShipCut$Row;)V"⟩, 11) := ⟨⟨by decide +kernel, by decide +kernel⟩, List.mem_of_getElem? (i := 10) (by decide +kernel), List.mem_of_getElem? (i := 294) (by decide +kernel), List.mem_of_getElem? (i := 295) (by decide +kernel)⟩
theorem lw_p4 : lw_okq (⟨"ShipCut", "lineOf", "(I)LShipCut$Row;"⟩, 11) := ⟨⟨by decide +kernel, by decide +kernel⟩, List.mem_of_getElem? (i := 10) (by decide +kernel), List.mem_of_getElem? (i := 298) (by decide +kernel), List.mem_of_getElem? (i := 299) (by decide +kernel)⟩
theorem lw_p5 : lw_okq (⟨"ShipCut", "findLateShips", "()V"⟩, 11) := ⟨⟨by decide +kernel, by decide +kernel⟩, List.mem_of_getElem? (i := 10) (by decide +kernel), List.mem_of_getElem? (i := 302) (by decide +kernel), List.mem_of_getElem? (i := 303) (by decide +kernel)⟩
theorem lw_p6 : lw_okq (⟨"ShipCut", "missedConvoy", "(LShipCut$Ship;)Z"⟩, 11) := ⟨⟨by decide +kernel, by decide +kernel⟩, List.mem_of_getElem? (i := 10) (by decide +kernel), List.mem_of_getElem? (i := 306) (by decide +kernel), List.mem_of_getElem? (i := 307) (by decide +kernel)⟩
theorem lw_p7 : lw_okq (⟨"ShipCut", "takeLateShip", "(LShipCut$Ship;)V"⟩, 11) := ⟨⟨by decide +kernel, by decide +kernel⟩, List.mem_of_getElem? (i := 10) (by decide +kernel), List.mem_of_getElem? (i := 310) (by decide +kernel), List.mem_of_getElem? (i := 311) (by decide +kernel)⟩
theorem lw_p8 : lw_okq (⟨"ShipCut", "nextConvoy", "(I)I"⟩, 11) := ⟨⟨by decide +kernel, by decide +kernel⟩, List.mem_of_getElem? (i := 10) (by decide +kernel), List.mem_of_getElem? (i := 314) (by decide +kernel), List.mem_of_getElem? (i := 315) (by decide +kernel)⟩
theorem lw_p9 : lw_okq (⟨"ShipCut", "moveShips", "(I)V"⟩, 11) := ⟨⟨by decide +kernel, by decide +kernel⟩, List.mem_of_getElem? (i := 10) (by decide +kernel), List.mem_of_getElem? (i := 318) (by decide +kernel), List.mem_of_getElem? (i := 319) (by decide +kernel)⟩
theorem lw_p10 : lw_okq (⟨"ShipCut", "moveWithin", "(LShipCut$Section;LShipCut$Row;)V"⟩, 11) := ⟨⟨by decide +kernel, by decide +kernel⟩, List.mem_of_getElem? (i := 10) (by decide +kernel), List.mem_of_getElem? (i := 326) (by decide +kernel), List.mem_of_getElem? (i := 327) (by decide +kernel)⟩
theorem lw_p11 : lw_okq (⟨"ShipCut", "leaves", "(LShipCut$Ship;LShipCut$Section;Z)Z"⟩, 11) := ⟨⟨by decide +kernel, by decide +kernel⟩, List.mem_of_getElem? (i := 10) (by decide +kernel), List.mem_of_getElem? (i := 334) (by decide +kernel), List.mem_of_getElem? (i := 335) (by decide +kernel)⟩
theorem lw_p12 : lw_okq (⟨"ShipCut", "causeAgainst", "(LShipCut$Ship;LShipCut$Section;)I"⟩, 11) := ⟨⟨by decide +kernel, by decide +kernel⟩, List.mem_of_getElem? (i := 10) (by decide +kernel), List.mem_of_getElem? (i := 338) (by decide +kernel), List.mem_of_getElem? (i := 339) (by decide +kernel)⟩
theorem lw_p13 : lw_okq (⟨"ShipCut", "reachesShip", "(III)Z"⟩, 11) := ⟨⟨by decide +kernel, by decide +kernel⟩, List.mem_of_getElem? (i := 10) (by decide +kernel), List.mem_of_getElem? (i := 348) (by decide +kernel), List.mem_of_getElem? (i := 349) (by decide +kernel)⟩
theorem lw_p14 : lw_okq (⟨"ShipCut", "depthNow", "(LShipCut$Section;)I"⟩, 11) := ⟨⟨by decide +kernel, by decide +kernel⟩, List.mem_of_getElem? (i := 10) (by decide +kernel), List.mem_of_getElem? (i := 352) (by decide +kernel), List.mem_of_getElem? (i := 353) (by decide +kernel)⟩
theorem lw_p15 : lw_okq (⟨"ShipCut", "ofThisHour", "([I)I"⟩, 11) := ⟨⟨by decide +kernel, by decide +kernel⟩, List.mem_of_getElem? (i := 10) (by decide +kernel), List.mem_of_getElem? (i := 356) (by decide +kernel), List.mem_of_getElem? (i := 357) (by decide +kernel)⟩
def lw_privs_1 : List (MethodName × Nat) := [(⟨"ShipCut", "sectionAt", "(I)LShipCut$Section;"⟩, 11), (⟨"ShipCut", "convoyAt", "(I)LShipCut$Convoy;"⟩, 11), (⟨"ShipCut", "startConvoys", "()V"⟩, 11), (⟨"ShipCut", "joinLine", "(LShipCut$Row;)V"⟩, 11), (⟨"ShipCut", "lineOf", "(I)LShipCut$Row;"⟩, 11), (⟨"ShipCut", "findLateShips", "()V"⟩, 11), (⟨"ShipCut", "missedConvoy", "(LShipCut$Ship;)Z"⟩, 11), (⟨"ShipCut", "takeLateShip", "(LShipCut$Ship;)V"⟩, 11), (⟨"ShipCut", "nextConvoy", "(I)I"⟩, 11), (⟨"ShipCut", "moveShips", "(I)V"⟩, 11), (⟨"ShipCut", "moveWithin", "(LShipCut$Section;LShipCut$Row;)V"⟩, 11), (⟨"ShipCut", "leaves", "(LShipCut$Ship;LShipCut$Section;Z)Z"⟩, 11), (⟨"ShipCut", "causeAgainst", "(LShipCut$Ship;LShipCut$Section;)I"⟩, 11), (⟨"ShipCut", "reachesShip", "(III)Z"⟩, 11), (⟨"ShipCut", "depthNow", "(LShipCut$Section;)I"⟩, 11), (⟨"ShipCut", "ofThisHour", "([I)I"⟩, 11)]
theorem lw_r1 : ∀ q ∈ lw_privs_1, lw_okq q := List.forall_mem_cons.mpr ⟨lw_p0, List.forall_mem_cons.mpr ⟨lw_p1, List.forall_mem_cons.mpr ⟨lw_p2, List.forall_mem_cons.mpr ⟨lw_p3, List.forall_mem_cons.mpr ⟨lw_p4, List.forall_mem_cons.mpr ⟨lw_p5, List.forall_mem_cons.mpr ⟨lw_p6, List.forall_mem_cons.mpr ⟨lw_p7, List.forall_mem_cons.mpr ⟨lw_p8, List.forall_mem_cons.mpr ⟨lw_p9, List.forall_mem_cons.mpr ⟨lw_p10, List.forall_mem_cons.mpr ⟨lw_p11, List.forall_mem_cons.mpr ⟨lw_p12, List.forall_mem_cons.mpr ⟨lw_p13, List.forall_mem_cons.mpr ⟨lw_p14, List.forall_mem_cons.mpr ⟨lw_p15, fun _ h => absurd h List.not_mem_nil⟩⟩⟩⟩⟩⟩⟩⟩⟩⟩⟩⟩⟩⟩⟩⟩
theorem lw_p16 : lw_okq (⟨"ShipCut", "windBarsGreat", "()Z"⟩, 11) := ⟨⟨by decide +kernel, by decide +kernel⟩, List.mem_of_getElem? (i := 10) (by decide +kernel), List.mem_of_getElem? (i := 360) (by decide +kernel), List.mem_of_getElem? (i := 361) (by decide +kernel)⟩
theorem lw_p17 : lw_okq (⟨"ShipCut", "comesInto", "(LShipCut$Ship;LShipCut$Section;I)Z"⟩, 11) := ⟨⟨by decide +kernel, by decide +kernel⟩, List.mem_of_getElem? (i := 10) (by decide +kernel), List.mem_of_getElem? (i := 364) (by decide +kernel), List.mem_of_getElem? (i := 365) (by decide +kernel)⟩
theorem lw_p18 : lw_okq (⟨"ShipCut", "letFirstIn", "(I)V"⟩, 11) := ⟨⟨by decide +kernel, by decide +kernel⟩, List.mem_of_getElem? (i := 10) (by decide +kernel), List.mem_of_getElem? (i := 372) (by decide +kernel), List.mem_of_getElem? (i := 373) (by decide +kernel)⟩
theorem lw_p19 : lw_okq (⟨"ShipCut", "shipsThat", "(I)I"⟩, 11) := ⟨⟨by decide +kernel, by decide +kernel⟩, List.mem_of_getElem? (i := 10) (by decide +kernel), List.mem_of_getElem? (i := 411) (by decide +kernel), List.mem_of_getElem? (i := 412) (by decide +kernel)⟩
theorem lw_p20 : lw_okq (⟨"ShipCut", "mostWaysInOneSection", "()I"⟩, 11) := ⟨⟨by decide +kernel, by decide +kernel⟩, List.mem_of_getElem? (i := 10) (by decide +kernel), List.mem_of_getElem? (i := 420) (by decide +kernel), List.mem_of_getElem? (i := 421) (by decide +kernel)⟩
theorem lw_p21 : lw_okq (⟨"ShipCutModel", "starts", "()V"⟩, 36) := ⟨⟨by decide +kernel, by decide +kernel⟩, List.mem_of_getElem? (i := 429) (by decide +kernel), List.mem_of_getElem? (i := 585) (by decide +kernel), List.mem_of_getElem? (i := 586) (by decide +kernel)⟩
theorem lw_p22 : lw_okq (⟨"ShipCutModel", "joins", "(I)V"⟩, 36) := ⟨⟨by decide +kernel, by decide +kernel⟩, List.mem_of_getElem? (i := 429) (by decide +kernel), List.mem_of_getElem? (i := 589) (by decide +kernel), List.mem_of_getElem? (i := 590) (by decide +kernel)⟩
theorem lw_p23 : lw_okq (⟨"ShipCutModel", "lates", "()V"⟩, 36) := ⟨⟨by decide +kernel, by decide +kernel⟩, List.mem_of_getElem? (i := 429) (by decide +kernel), List.mem_of_getElem? (i := 593) (by decide +kernel), List.mem_of_getElem? (i := 594) (by decide +kernel)⟩
theorem lw_p24 : lw_okq (⟨"ShipCutModel", "nextConvoy", "(I)I"⟩, 36) := ⟨⟨by decide +kernel, by decide +kernel⟩, List.mem_of_getElem? (i := 429) (by decide +kernel), List.mem_of_getElem? (i := 597) (by decide +kernel), List.mem_of_getElem? (i := 598) (by decide +kernel)⟩
theorem lw_p25 : lw_okq (⟨"ShipCutModel", "moves", "(II)V"⟩, 36) := ⟨⟨by decide +kernel, by decide +kernel⟩, List.mem_of_getElem? (i := 429) (by decide +kernel), List.mem_of_getElem? (i := 601) (by decide +kernel), List.mem_of_getElem? (i := 602) (by decide +kernel)⟩
theorem lw_p26 : lw_okq (⟨"ShipCutModel", "goes", "(II)Z"⟩, 36) := ⟨⟨by decide +kernel, by decide +kernel⟩, List.mem_of_getElem? (i := 429) (by decide +kernel), List.mem_of_getElem? (i := 605) (by decide +kernel), List.mem_of_getElem? (i := 606) (by decide +kernel)⟩
theorem lw_p27 : lw_okq (⟨"ShipCutModel", "leaves", "(II)V"⟩, 36) := ⟨⟨by decide +kernel, by decide +kernel⟩, List.mem_of_getElem? (i := 429) (by decide +kernel), List.mem_of_getElem? (i := 609) (by decide +kernel), List.mem_of_getElem? (i := 610) (by decide +kernel)⟩
theorem lw_p28 : lw_okq (⟨"ShipCutModel", "cause", "(II)I"⟩, 36) := ⟨⟨by decide +kernel, by decide +kernel⟩, List.mem_of_getElem? (i := 429) (by decide +kernel), List.mem_of_getElem? (i := 613) (by decide +kernel), List.mem_of_getElem? (i := 614) (by decide +kernel)⟩
theorem lw_p29 : lw_okq (⟨"ShipCutModel", "isAground", "(I)Z"⟩, 36) := ⟨⟨by decide +kernel, by decide +kernel⟩, List.mem_of_getElem? (i := 429) (by decide +kernel), List.mem_of_getElem? (i := 617) (by decide +kernel), List.mem_of_getElem? (i := 618) (by decide +kernel)⟩
theorem lw_p30 : lw_okq (⟨"ShipCutModel", "isOncoming", "(II)Z"⟩, 36) := ⟨⟨by decide +kernel, by decide +kernel⟩, List.mem_of_getElem? (i := 429) (by decide +kernel), List.mem_of_getElem? (i := 621) (by decide +kernel), List.mem_of_getElem? (i := 622) (by decide +kernel)⟩
theorem lw_p31 : lw_okq (⟨"ShipCutModel", "enters", "(II)V"⟩, 36) := ⟨⟨by decide +kernel, by decide +kernel⟩, List.mem_of_getElem? (i := 429) (by decide +kernel), List.mem_of_getElem? (i := 625) (by decide +kernel), List.mem_of_getElem? (i := 626) (by decide +kernel)⟩
def lw_privs_2 : List (MethodName × Nat) := [(⟨"ShipCut", "windBarsGreat", "()Z"⟩, 11), (⟨"ShipCut", "comesInto", "(LShipCut$Ship;LShipCut$Section;I)Z"⟩, 11), (⟨"ShipCut", "letFirstIn", "(I)V"⟩, 11), (⟨"ShipCut", "shipsThat", "(I)I"⟩, 11), (⟨"ShipCut", "mostWaysInOneSection", "()I"⟩, 11), (⟨"ShipCutModel", "starts", "()V"⟩, 36), (⟨"ShipCutModel", "joins", "(I)V"⟩, 36), (⟨"ShipCutModel", "lates", "()V"⟩, 36), (⟨"ShipCutModel", "nextConvoy", "(I)I"⟩, 36), (⟨"ShipCutModel", "moves", "(II)V"⟩, 36), (⟨"ShipCutModel", "goes", "(II)Z"⟩, 36), (⟨"ShipCutModel", "leaves", "(II)V"⟩, 36), (⟨"ShipCutModel", "cause", "(II)I"⟩, 36), (⟨"ShipCutModel", "isAground", "(I)Z"⟩, 36), (⟨"ShipCutModel", "isOncoming", "(II)Z"⟩, 36), (⟨"ShipCutModel", "enters", "(II)V"⟩, 36)]
theorem lw_r2 : ∀ q ∈ lw_privs_2, lw_okq q := List.forall_mem_cons.mpr ⟨lw_p16, List.forall_mem_cons.mpr ⟨lw_p17, List.forall_mem_cons.mpr ⟨lw_p18, List.forall_mem_cons.mpr ⟨lw_p19, List.forall_mem_cons.mpr ⟨lw_p20, List.forall_mem_cons.mpr ⟨lw_p21, List.forall_mem_cons.mpr ⟨lw_p22, List.forall_mem_cons.mpr ⟨lw_p23, List.forall_mem_cons.mpr ⟨lw_p24, List.forall_mem_cons.mpr ⟨lw_p25, List.forall_mem_cons.mpr ⟨lw_p26, List.forall_mem_cons.mpr ⟨lw_p27, List.forall_mem_cons.mpr ⟨lw_p28, List.forall_mem_cons.mpr ⟨lw_p29, List.forall_mem_cons.mpr ⟨lw_p30, List.forall_mem_cons.mpr ⟨lw_p31, fun _ h => absurd h List.not_mem_nil⟩⟩⟩⟩⟩⟩⟩⟩⟩⟩⟩⟩⟩⟩⟩⟩
theorem lw_p32 : lw_okq (⟨"ShipCutModel", "comesIn", "(I)V"⟩, 36) := ⟨⟨by decide +kernel, by decide +kernel⟩, List.mem_of_getElem? (i := 429) (by decide +kernel), List.mem_of_getElem? (i := 629) (by decide +kernel), List.mem_of_getElem? (i := 630) (by decide +kernel)⟩
theorem lw_p33 : lw_okq (⟨"ShipCutModel", "dues", "(I)I"⟩, 36) := ⟨⟨by decide +kernel, by decide +kernel⟩, List.mem_of_getElem? (i := 429) (by decide +kernel), List.mem_of_getElem? (i := 637) (by decide +kernel), List.mem_of_getElem? (i := 638) (by decide +kernel)⟩
theorem lw_p34 : lw_okq (⟨"ShipCutModel", "several", "()I"⟩, 36) := ⟨⟨by decide +kernel, by decide +kernel⟩, List.mem_of_getElem? (i := 429) (by decide +kernel), List.mem_of_getElem? (i := 658) (by decide +kernel), List.mem_of_getElem? (i := 659) (by decide +kernel)⟩
def lw_privs_3 : List (MethodName × Nat) := [(⟨"ShipCutModel", "comesIn", "(I)V"⟩, 36), (⟨"ShipCutModel", "dues", "(I)I"⟩, 36), (⟨"ShipCutModel", "several", "()I"⟩, 36)]
theorem lw_r3 : ∀ q ∈ lw_privs_3, lw_okq q := List.forall_mem_cons.mpr ⟨lw_p32, List.forall_mem_cons.mpr ⟨lw_p33, List.forall_mem_cons.mpr ⟨lw_p34, fun _ h => absurd h List.not_mem_nil⟩⟩⟩
def lw_privs : List (MethodName × Nat) := lw_privs_1 ++ (lw_privs_2 ++ (lw_privs_3))
def lw_tbl : List Cond := k2_sels lw_privs ++ tables_1
theorem lw_privs_ok : ∀ q ∈ lw_privs, lw_okq q := by
  show ∀ q ∈ lw_privs_1 ++ (lw_privs_2 ++ (lw_privs_3)), lw_okq q
  exact List.forall_mem_append.mpr ⟨lw_r1, List.forall_mem_append.mpr ⟨lw_r2, lw_r3⟩⟩
def RX0 : String := "ShipCut$Convoy"
def TX0 : u_T := fun k => match k with
  | 0 => ("ShipCut$Convoy", "way", "I", true)
  | 1 => ("ShipCut$Convoy", "start", "I", true)
  | 2 => ("ShipCut$Convoy", "booked", "LShipCut$Row;", true)
  | _ => ("ShipCut$Convoy", "putOff", "LShipCut$Row;", true)
def tyX0 : Nat → FieldType := fun k => match k with
  | 0 => .int
  | 1 => .int
  | 2 => .object "ShipCut$Row"
  | _ => .object "ShipCut$Row"
abbrev wsX00 : List Cond := u_ws RX0 TX0 4
theorem nmX0 : ∀ a, a < 4 → ∀ b, b < 4 → a ≠ b → (TX0 a).2.1 ≠ (TX0 b).2.1 := by decide +kernel
theorem tyX0_ok : ∀ k, k < 4 → parseFieldDescriptor (TX0 k).2.2.1 = some (tyX0 k) := by decide +kernel
abbrev cX0_init : ByteArray := prog_2_method_1_code
def yX0_init : MethodName := ⟨RX0, "<init>", "(II)V"⟩
def RX1 : String := "ShipCut$Lane"
def TX1 : u_T := fun k => match k with
  | 0 => ("ShipCut$Lane", "ships", "LShipCut$Row;", true)
  | _ => ("ShipCut$Lane", "lastCame", "I", false)
def tyX1 : Nat → FieldType := fun k => match k with
  | 0 => .object "ShipCut$Row"
  | _ => .int
abbrev wsX10 : List Cond := u_ws RX1 TX1 2
theorem nmX1 : ∀ a, a < 2 → ∀ b, b < 2 → a ≠ b → (TX1 a).2.1 ≠ (TX1 b).2.1 := by decide +kernel
theorem tyX1_ok : ∀ k, k < 2 → parseFieldDescriptor (TX1 k).2.2.1 = some (tyX1 k) := by decide +kernel
abbrev cX1_init : ByteArray := prog_3_method_1_code
def yX1_init : MethodName := ⟨RX1, "<init>", "()V"⟩
def RX2 : String := "ShipCut$Row"
def TX2 : u_T := fun k => match k with
  | 0 => ("ShipCut$Row", "places", "[LShipCut$Ship;", true)
  | _ => ("ShipCut$Row", "size", "I", false)
def tyX2 : Nat → FieldType := fun k => match k with
  | 0 => .array (.object "ShipCut$Ship")
  | _ => .int
abbrev wsX20 : List Cond := u_ws RX2 TX2 2
theorem nmX2 : ∀ a, a < 2 → ∀ b, b < 2 → a ≠ b → (TX2 a).2.1 ≠ (TX2 b).2.1 := by decide +kernel
theorem tyX2_ok : ∀ k, k < 2 → parseFieldDescriptor (TX2 k).2.2.1 = some (tyX2 k) := by decide +kernel
abbrev cX2_init : ByteArray := prog_4_method_1_code
def yX2_init : MethodName := ⟨RX2, "<init>", "(I)V"⟩
abbrev cX2_isFull : ByteArray := prog_4_method_2_code
def yX2_isFull : MethodName := ⟨RX2, "isFull", "()Z"⟩
abbrev cX2_add : ByteArray := prog_4_method_3_code
def yX2_add : MethodName := ⟨RX2, "add", "(LShipCut$Ship;)V"⟩
abbrev cX2_at : ByteArray := prog_4_method_4_code
def yX2_at : MethodName := ⟨RX2, "at", "(I)LShipCut$Ship;"⟩
abbrev cX2_numberAt : ByteArray := prog_4_method_5_code
def yX2_numberAt : MethodName := ⟨RX2, "numberAt", "(I)I"⟩
abbrev cX2_hasAground : ByteArray := prog_4_method_6_code
def yX2_hasAground : MethodName := ⟨RX2, "hasAground", "(I)Z"⟩
abbrev cX2_removeFirst : ByteArray := prog_4_method_7_code
def yX2_removeFirst : MethodName := ⟨RX2, "removeFirst", "()V"⟩
def RX3 : String := "ShipCut$Section"
def TX3 : u_T := fun k => match k with
  | 0 => ("ShipCut$Section", "number", "I", true)
  | 1 => ("ShipCut$Section", "length", "I", false)
  | 2 => ("ShipCut$Section", "depth", "I", false)
  | 3 => ("ShipCut$Section", "bypass", "Z", false)
  | 4 => ("ShipCut$Section", "north", "LShipCut$Lane;", true)
  | _ => ("ShipCut$Section", "south", "LShipCut$Lane;", true)
def tyX3 : Nat → FieldType := fun k => match k with
  | 0 => .int
  | 1 => .int
  | 2 => .int
  | 3 => .boolean
  | 4 => .object "ShipCut$Lane"
  | _ => .object "ShipCut$Lane"
abbrev wsX30 : List Cond := u_ws RX3 TX3 6
theorem nmX3 : ∀ a, a < 6 → ∀ b, b < 6 → a ≠ b → (TX3 a).2.1 ≠ (TX3 b).2.1 := by decide +kernel
theorem tyX3_ok : ∀ k, k < 6 → parseFieldDescriptor (TX3 k).2.2.1 = some (tyX3 k) := by decide +kernel
abbrev cX3_init : ByteArray := prog_5_method_1_code
def yX3_init : MethodName := ⟨RX3, "<init>", "(I)V"⟩
abbrev cX3_lane : ByteArray := prog_5_method_2_code
def yX3_lane : MethodName := ⟨RX3, "lane", "(I)LShipCut$Lane;"⟩
abbrev cX3_waysInside : ByteArray := prog_5_method_3_code
def yX3_waysInside : MethodName := ⟨RX3, "waysInside", "()I"⟩
def RX4 : String := "ShipCut$Ship"
def TX4 : u_T := fun k => match k with
  | 0 => ("ShipCut$Ship", "number", "I", true)
  | 1 => ("ShipCut$Ship", "way", "I", true)
  | 2 => ("ShipCut$Ship", "minute", "I", true)
  | 3 => ("ShipCut$Ship", "great", "Z", true)
  | 4 => ("ShipCut$Ship", "draught", "I", true)
  | 5 => ("ShipCut$Ship", "slow", "Z", true)
  | 6 => ("ShipCut$Ship", "tons", "I", true)
  | 7 => ("ShipCut$Ship", "waits", "[I", true)
  | 8 => ("ShipCut$Ship", "place", "I", false)
  | 9 => ("ShipCut$Ship", "toGo", "I", false)
  | 10 => ("ShipCut$Ship", "late", "Z", false)
  | 11 => ("ShipCut$Ship", "left", "Z", false)
  | 12 => ("ShipCut$Ship", "cameIn", "I", false)
  | 13 => ("ShipCut$Ship", "wentOut", "I", false)
  | 14 => ("ShipCut$Ship", "convoy", "I", false)
  | _ => ("ShipCut$Ship", "agroundUntil", "I", false)
def tyX4 : Nat → FieldType := fun k => match k with
  | 0 => .int
  | 1 => .int
  | 2 => .int
  | 3 => .boolean
  | 4 => .int
  | 5 => .boolean
  | 6 => .int
  | 7 => .array .int
  | 8 => .int
  | 9 => .int
  | 10 => .boolean
  | 11 => .boolean
  | 12 => .int
  | 13 => .int
  | 14 => .int
  | _ => .int
abbrev wsX40 : List Cond := u_ws RX4 TX4 16
theorem nmX4 : ∀ a, a < 16 → ∀ b, b < 16 → a ≠ b → (TX4 a).2.1 ≠ (TX4 b).2.1 := by decide +kernel
theorem tyX4_ok : ∀ k, k < 16 → parseFieldDescriptor (TX4 k).2.2.1 = some (tyX4 k) := by decide +kernel
abbrev cX4_init : ByteArray := prog_6_method_1_code
def yX4_init : MethodName := ⟨RX4, "<init>", "(IIIZIZI)V"⟩
abbrev cX4_isInSection : ByteArray := prog_6_method_2_code
def yX4_isInSection : MethodName := ⟨RX4, "isInSection", "()Z"⟩
abbrev cX4_isAground : ByteArray := prog_6_method_3_code
def yX4_isAground : MethodName := ⟨RX4, "isAground", "(I)Z"⟩
abbrev cX4_waitBy : ByteArray := prog_6_method_4_code
def yX4_waitBy : MethodName := ⟨RX4, "waitBy", "(I)V"⟩
abbrev cX4_waitedInAll : ByteArray := prog_6_method_5_code
def yX4_waitedInAll : MethodName := ⟨RX4, "waitedInAll", "()I"⟩
abbrev cX4_counts : ByteArray := prog_6_method_6_code
def yX4_counts : MethodName := ⟨RX4, "counts", "(I)Z"⟩
abbrev cX4_dues : ByteArray := prog_6_method_7_code
def yX4_dues : MethodName := ⟨RX4, "dues", "()I"⟩
def RX5 : String := "ShipCut"
def TX5 : u_T := fun k => match k with
  | 0 => ("ShipCut", "sections", "[LShipCut$Section;", true)
  | 1 => ("ShipCut", "tides", "[I", true)
  | 2 => ("ShipCut", "winds", "[I", true)
  | 3 => ("ShipCut", "ships", "LShipCut$Row;", true)
  | 4 => ("ShipCut", "convoys", "[LShipCut$Convoy;", true)
  | 5 => ("ShipCut", "convoyCount", "I", false)
  | 6 => ("ShipCut", "northLine", "LShipCut$Row;", true)
  | 7 => ("ShipCut", "southLine", "LShipCut$Row;", true)
  | 8 => ("ShipCut", "gap", "I", false)
  | 9 => ("ShipCut", "lateRule", "I", false)
  | _ => ("ShipCut", "now", "I", false)
def tyX5 : Nat → FieldType := fun k => match k with
  | 0 => .array (.object "ShipCut$Section")
  | 1 => .array .int
  | 2 => .array .int
  | 3 => .object "ShipCut$Row"
  | 4 => .array (.object "ShipCut$Convoy")
  | 5 => .int
  | 6 => .object "ShipCut$Row"
  | 7 => .object "ShipCut$Row"
  | 8 => .int
  | 9 => .int
  | _ => .int
abbrev wsX50 : List Cond := u_ws RX5 TX5 11
theorem nmX5 : ∀ a, a < 11 → ∀ b, b < 11 → a ≠ b → (TX5 a).2.1 ≠ (TX5 b).2.1 := by decide +kernel
theorem tyX5_ok : ∀ k, k < 11 → parseFieldDescriptor (TX5 k).2.2.1 = some (tyX5 k) := by decide +kernel
abbrev cX5_init : ByteArray := prog_1_method_1_code
def yX5_init : MethodName := ⟨RX5, "<init>", "()V"⟩
abbrev cX5_section : ByteArray := prog_1_method_2_code
def yX5_section : MethodName := ⟨RX5, "section", "(IIIZ)I"⟩
abbrev cX5_tide : ByteArray := prog_1_method_3_code
def yX5_tide : MethodName := ⟨RX5, "tide", "(II)I"⟩
abbrev cX5_wind : ByteArray := prog_1_method_4_code
def yX5_wind : MethodName := ⟨RX5, "wind", "(II)I"⟩
abbrev cX5_rule : ByteArray := prog_1_method_5_code
def yX5_rule : MethodName := ⟨RX5, "rule", "(II)I"⟩
abbrev cX5_ship : ByteArray := prog_1_method_6_code
def yX5_ship : MethodName := ⟨RX5, "ship", "(IIZIZI)I"⟩
abbrev cX5_convoy : ByteArray := prog_1_method_7_code
def yX5_convoy : MethodName := ⟨RX5, "convoy", "(II)I"⟩
abbrev cX5_book : ByteArray := prog_1_method_8_code
def yX5_book : MethodName := ⟨RX5, "book", "(II)I"⟩
abbrev cX5_ground : ByteArray := prog_1_method_9_code
def yX5_ground : MethodName := ⟨RX5, "ground", "(II)I"⟩
abbrev cX5_minutes : ByteArray := prog_1_method_10_code
def yX5_minutes : MethodName := ⟨RX5, "minutes", "(I)I"⟩
abbrev cX5_startConvoys : ByteArray := prog_1_method_11_code
def yX5_startConvoys : MethodName := ⟨RX5, "startConvoys", "()V"⟩
abbrev cX5_joinLine : ByteArray := prog_1_method_12_code
def yX5_joinLine : MethodName := ⟨RX5, "joinLine", "(LShipCut$Row;)V"⟩
abbrev cX5_findLateShips : ByteArray := prog_1_method_13_code
def yX5_findLateShips : MethodName := ⟨RX5, "findLateShips", "()V"⟩
abbrev cX5_missedConvoy : ByteArray := prog_1_method_14_code
def yX5_missedConvoy : MethodName := ⟨RX5, "missedConvoy", "(LShipCut$Ship;)Z"⟩
abbrev cX5_takeLateShip : ByteArray := prog_1_method_15_code
def yX5_takeLateShip : MethodName := ⟨RX5, "takeLateShip", "(LShipCut$Ship;)V"⟩
abbrev cX5_nextConvoy : ByteArray := prog_1_method_16_code
def yX5_nextConvoy : MethodName := ⟨RX5, "nextConvoy", "(I)I"⟩
abbrev cX5_moveShips : ByteArray := prog_1_method_17_code
def yX5_moveShips : MethodName := ⟨RX5, "moveShips", "(I)V"⟩
abbrev cX5_moveWithin : ByteArray := prog_1_method_18_code
def yX5_moveWithin : MethodName := ⟨RX5, "moveWithin", "(LShipCut$Section;LShipCut$Row;)V"⟩
abbrev cX5_leaves : ByteArray := prog_1_method_19_code
def yX5_leaves : MethodName := ⟨RX5, "leaves", "(LShipCut$Ship;LShipCut$Section;Z)Z"⟩
abbrev cX5_letFirstIn : ByteArray := prog_1_method_20_code
def yX5_letFirstIn : MethodName := ⟨RX5, "letFirstIn", "(I)V"⟩
abbrev cX5_comesInto : ByteArray := prog_1_method_21_code
def yX5_comesInto : MethodName := ⟨RX5, "comesInto", "(LShipCut$Ship;LShipCut$Section;I)Z"⟩
abbrev cX5_causeAgainst : ByteArray := prog_1_method_22_code
def yX5_causeAgainst : MethodName := ⟨RX5, "causeAgainst", "(LShipCut$Ship;LShipCut$Section;)I"⟩
abbrev cX5_reachesShip : ByteArray := prog_1_method_23_code
def yX5_reachesShip : MethodName := ⟨RX5, "reachesShip", "(III)Z"⟩
abbrev cX5_depthNow : ByteArray := prog_1_method_24_code
def yX5_depthNow : MethodName := ⟨RX5, "depthNow", "(LShipCut$Section;)I"⟩
abbrev cX5_windBarsGreat : ByteArray := prog_1_method_25_code
def yX5_windBarsGreat : MethodName := ⟨RX5, "windBarsGreat", "()Z"⟩
abbrev cX5_ofThisHour : ByteArray := prog_1_method_26_code
def yX5_ofThisHour : MethodName := ⟨RX5, "ofThisHour", "([I)I"⟩
abbrev cX5_told : ByteArray := prog_1_method_27_code
def yX5_told : MethodName := ⟨RX5, "told", "(II)I"⟩
abbrev cX5_waited : ByteArray := prog_1_method_28_code
def yX5_waited : MethodName := ⟨RX5, "waited", "(II)I"⟩
abbrev cX5_line : ByteArray := prog_1_method_29_code
def yX5_line : MethodName := ⟨RX5, "line", "(II)I"⟩
abbrev cX5_in : ByteArray := prog_1_method_30_code
def yX5_in : MethodName := ⟨RX5, "in", "(III)I"⟩
abbrev cX5_count : ByteArray := prog_1_method_31_code
def yX5_count : MethodName := ⟨RX5, "count", "(I)I"⟩
abbrev cX5_shipsThat : ByteArray := prog_1_method_32_code
def yX5_shipsThat : MethodName := ⟨RX5, "shipsThat", "(I)I"⟩
abbrev cX5_mostWaysInOneSection : ByteArray := prog_1_method_33_code
def yX5_mostWaysInOneSection : MethodName := ⟨RX5, "mostWaysInOneSection", "()I"⟩
abbrev cX5_sectionAt : ByteArray := prog_1_method_34_code
def yX5_sectionAt : MethodName := ⟨RX5, "sectionAt", "(I)LShipCut$Section;"⟩
abbrev cX5_convoyAt : ByteArray := prog_1_method_35_code
def yX5_convoyAt : MethodName := ⟨RX5, "convoyAt", "(I)LShipCut$Convoy;"⟩
abbrev cX5_lineOf : ByteArray := prog_1_method_36_code
def yX5_lineOf : MethodName := ⟨RX5, "lineOf", "(I)LShipCut$Row;"⟩
abbrev cX5_isWay : ByteArray := prog_1_method_37_code
def yX5_isWay : MethodName := ⟨RX5, "isWay", "(I)Z"⟩
abbrev cX5_within : ByteArray := prog_1_method_38_code
def yX5_within : MethodName := ⟨RX5, "within", "(III)Z"⟩
def RX6 : String := "ShipCutModel"
def TX6 : u_T := fun k => match k with
  | 0 => ("ShipCutModel", "minute", "I", false)
  | 1 => ("ShipCutModel", "gap", "I", false)
  | 2 => ("ShipCutModel", "rule", "I", false)
  | 3 => ("ShipCutModel", "length", "[I", true)
  | 4 => ("ShipCutModel", "depth", "[I", true)
  | 5 => ("ShipCutModel", "bypass", "[Z", true)
  | 6 => ("ShipCutModel", "tide", "[I", true)
  | 7 => ("ShipCutModel", "wind", "[I", true)
  | 8 => ("ShipCutModel", "ships", "I", false)
  | 9 => ("ShipCutModel", "way", "[I", true)
  | 10 => ("ShipCutModel", "there", "[I", true)
  | 11 => ("ShipCutModel", "great", "[Z", true)
  | 12 => ("ShipCutModel", "draught", "[I", true)
  | 13 => ("ShipCutModel", "slow", "[Z", true)
  | 14 => ("ShipCutModel", "tons", "[I", true)
  | 15 => ("ShipCutModel", "place", "[I", true)
  | 16 => ("ShipCutModel", "toGo", "[I", true)
  | 17 => ("ShipCutModel", "late", "[Z", true)
  | 18 => ("ShipCutModel", "left", "[Z", true)
  | 19 => ("ShipCutModel", "cameIn", "[I", true)
  | 20 => ("ShipCutModel", "wentOut", "[I", true)
  | 21 => ("ShipCutModel", "aground", "[I", true)
  | 22 => ("ShipCutModel", "convoyOf", "[I", true)
  | 23 => ("ShipCutModel", "waits", "[I", true)
  | 24 => ("ShipCutModel", "convoys", "I", false)
  | 25 => ("ShipCutModel", "convoyWay", "[I", true)
  | 26 => ("ShipCutModel", "start", "[I", true)
  | 27 => ("ShipCutModel", "bookedMany", "[I", true)
  | 28 => ("ShipCutModel", "booked", "[I", true)
  | 29 => ("ShipCutModel", "putMany", "[I", true)
  | 30 => ("ShipCutModel", "put", "[I", true)
  | 31 => ("ShipCutModel", "lineMany", "[I", true)
  | 32 => ("ShipCutModel", "line", "[I", true)
  | 33 => ("ShipCutModel", "inMany", "[I", true)
  | 34 => ("ShipCutModel", "inside", "[I", true)
  | _ => ("ShipCutModel", "lastIn", "[I", true)
def tyX6 : Nat → FieldType := fun k => match k with
  | 0 => .int
  | 1 => .int
  | 2 => .int
  | 3 => .array .int
  | 4 => .array .int
  | 5 => .array .boolean
  | 6 => .array .int
  | 7 => .array .int
  | 8 => .int
  | 9 => .array .int
  | 10 => .array .int
  | 11 => .array .boolean
  | 12 => .array .int
  | 13 => .array .boolean
  | 14 => .array .int
  | 15 => .array .int
  | 16 => .array .int
  | 17 => .array .boolean
  | 18 => .array .boolean
  | 19 => .array .int
  | 20 => .array .int
  | 21 => .array .int
  | 22 => .array .int
  | 23 => .array .int
  | 24 => .int
  | 25 => .array .int
  | 26 => .array .int
  | 27 => .array .int
  | 28 => .array .int
  | 29 => .array .int
  | 30 => .array .int
  | 31 => .array .int
  | 32 => .array .int
  | 33 => .array .int
  | 34 => .array .int
  | _ => .array .int
abbrev wsX60 : List Cond := u_ws RX6 TX6 36
theorem nmX6 : ∀ a, a < 36 → ∀ b, b < 36 → a ≠ b → (TX6 a).2.1 ≠ (TX6 b).2.1 := by decide +kernel
theorem tyX6_ok : ∀ k, k < 36 → parseFieldDescriptor (TX6 k).2.2.1 = some (tyX6 k) := by decide +kernel
abbrev cX6_init : ByteArray := prog_8_method_1_code
def yX6_init : MethodName := ⟨RX6, "<init>", "()V"⟩
abbrev cX6_isIn : ByteArray := prog_8_method_2_code
def yX6_isIn : MethodName := ⟨RX6, "isIn", "(III)Z"⟩
abbrev cX6_section : ByteArray := prog_8_method_3_code
def yX6_section : MethodName := ⟨RX6, "section", "(IIIZ)I"⟩
abbrev cX6_tide : ByteArray := prog_8_method_4_code
def yX6_tide : MethodName := ⟨RX6, "tide", "(II)I"⟩
abbrev cX6_wind : ByteArray := prog_8_method_5_code
def yX6_wind : MethodName := ⟨RX6, "wind", "(II)I"⟩
abbrev cX6_rule : ByteArray := prog_8_method_6_code
def yX6_rule : MethodName := ⟨RX6, "rule", "(II)I"⟩
abbrev cX6_ship : ByteArray := prog_8_method_7_code
def yX6_ship : MethodName := ⟨RX6, "ship", "(IIZIZI)I"⟩
abbrev cX6_convoy : ByteArray := prog_8_method_8_code
def yX6_convoy : MethodName := ⟨RX6, "convoy", "(II)I"⟩
abbrev cX6_book : ByteArray := prog_8_method_9_code
def yX6_book : MethodName := ⟨RX6, "book", "(II)I"⟩
abbrev cX6_ground : ByteArray := prog_8_method_10_code
def yX6_ground : MethodName := ⟨RX6, "ground", "(II)I"⟩
abbrev cX6_joins : ByteArray := prog_8_method_11_code
def yX6_joins : MethodName := ⟨RX6, "joins", "(I)V"⟩
abbrev cX6_starts : ByteArray := prog_8_method_12_code
def yX6_starts : MethodName := ⟨RX6, "starts", "()V"⟩
abbrev cX6_nextConvoy : ByteArray := prog_8_method_13_code
def yX6_nextConvoy : MethodName := ⟨RX6, "nextConvoy", "(I)I"⟩
abbrev cX6_lates : ByteArray := prog_8_method_14_code
def yX6_lates : MethodName := ⟨RX6, "lates", "()V"⟩
abbrev cX6_isAground : ByteArray := prog_8_method_15_code
def yX6_isAground : MethodName := ⟨RX6, "isAground", "(I)Z"⟩
abbrev cX6_isOncoming : ByteArray := prog_8_method_16_code
def yX6_isOncoming : MethodName := ⟨RX6, "isOncoming", "(II)Z"⟩
abbrev cX6_cause : ByteArray := prog_8_method_17_code
def yX6_cause : MethodName := ⟨RX6, "cause", "(II)I"⟩
abbrev cX6_enters : ByteArray := prog_8_method_18_code
def yX6_enters : MethodName := ⟨RX6, "enters", "(II)V"⟩
abbrev cX6_leaves : ByteArray := prog_8_method_19_code
def yX6_leaves : MethodName := ⟨RX6, "leaves", "(II)V"⟩
abbrev cX6_moves : ByteArray := prog_8_method_20_code
def yX6_moves : MethodName := ⟨RX6, "moves", "(II)V"⟩
abbrev cX6_goes : ByteArray := prog_8_method_21_code
def yX6_goes : MethodName := ⟨RX6, "goes", "(II)Z"⟩
abbrev cX6_comesIn : ByteArray := prog_8_method_22_code
def yX6_comesIn : MethodName := ⟨RX6, "comesIn", "(I)V"⟩
abbrev cX6_minutes : ByteArray := prog_8_method_23_code
def yX6_minutes : MethodName := ⟨RX6, "minutes", "(I)I"⟩
abbrev cX6_dues : ByteArray := prog_8_method_24_code
def yX6_dues : MethodName := ⟨RX6, "dues", "(I)I"⟩
abbrev cX6_told : ByteArray := prog_8_method_25_code
def yX6_told : MethodName := ⟨RX6, "told", "(II)I"⟩
abbrev cX6_waited : ByteArray := prog_8_method_26_code
def yX6_waited : MethodName := ⟨RX6, "waited", "(II)I"⟩
abbrev cX6_line : ByteArray := prog_8_method_27_code
def yX6_line : MethodName := ⟨RX6, "line", "(II)I"⟩
abbrev cX6_in : ByteArray := prog_8_method_28_code
def yX6_in : MethodName := ⟨RX6, "in", "(III)I"⟩
abbrev cX6_several : ByteArray := prog_8_method_29_code
def yX6_several : MethodName := ⟨RX6, "several", "()I"⟩
abbrev cX6_count : ByteArray := prog_8_method_30_code
def yX6_count : MethodName := ⟨RX6, "count", "(I)I"⟩
def RJ9 : String := "java/lang/Math"
def RL : String := "ShipCutLaw"
abbrev cL_law : ByteArray := code
def yL_law : MethodName := ⟨RL, "law", "([I)Z"⟩
abbrev vwCl : List vw_C := [(RX0, TX0, 4), (RX1, TX1, 2), (RX2, TX2, 2), (RX3, TX3, 6), (RX4, TX4, 16), (RX5, TX5, 11), (RX6, TX6, 36)]
/-- the tables' words that may be carried over a call -/
def TB : List Cond := lw_tbl.filter goodWord
theorem TB_mem {w : Cond} (h : w ∈ lw_tbl) (g : goodWord w = true) : w ∈ TB := List.mem_filter.mpr ⟨h, g⟩
theorem TB_sub {w : Cond} (h : w ∈ TB) : w ∈ lw_tbl := (List.mem_filter.mp h).1
theorem TB_good : GoodIn TB TB := fun w h => ⟨h, good_of_word (List.mem_filter.mp h).2⟩
def isNest : Cond → Bool
  | .fieldLinkNest .. => true
  | .methodLinkNest .. => true
  | _ => false
def NW : List Cond := lw_tbl.filter isNest
theorem NW_mem {w : Cond} (h : w ∈ lw_tbl) (g : isNest w = true) : w ∈ NW := List.mem_filter.mpr ⟨h, g⟩
/-- the table of a class's fields -/
def TT (ci k : Nat) : String × String × String × Bool := match ci with
  | 0 => TX0 k
  | 1 => TX1 k
  | 2 => TX2 k
  | 3 => TX3 k
  | 4 => TX4 k
  | 5 => TX5 k
  | _ => TX6 k
def tyT (ci k : Nat) : FieldType := match ci with
  | 0 => tyX0 k
  | 1 => tyX1 k
  | 2 => tyX2 k
  | 3 => tyX3 k
  | 4 => tyX4 k
  | 5 => tyX5 k
  | _ => tyX6 k
def FL (own : String) (idx ci k : Nat) : Prop := Cond.fieldLink own idx (TT ci k).1 (TT ci k).2.1 (TT ci k).2.2.1 ∈ TB
def FN (own : String) (idx ci k : Nat) : Prop := ∃ host : String, Cond.fieldLinkNest own idx (TT ci k).1 (TT ci k).2.1 (TT ci k).2.2.1 host ∈ NW
theorem ms_X5_sectionAt : Cond.selects RX5 yX5_sectionAt yX5_sectionAt ∈ TB := TB_mem (List.mem_of_getElem? (i := 0) (by decide +kernel)) rfl
theorem ms_X5_convoyAt : Cond.selects RX5 yX5_convoyAt yX5_convoyAt ∈ TB := TB_mem (List.mem_of_getElem? (i := 1) (by decide +kernel)) rfl
theorem ms_X5_startConvoys : Cond.selects RX5 yX5_startConvoys yX5_startConvoys ∈ TB := TB_mem (List.mem_of_getElem? (i := 2) (by decide +kernel)) rfl
theorem ms_X5_joinLine : Cond.selects RX5 yX5_joinLine yX5_joinLine ∈ TB := TB_mem (List.mem_of_getElem? (i := 3) (by decide +kernel)) rfl
theorem ms_X5_lineOf : Cond.selects RX5 yX5_lineOf yX5_lineOf ∈ TB := TB_mem (List.mem_of_getElem? (i := 4) (by decide +kernel)) rfl
theorem ms_X5_findLateShips : Cond.selects RX5 yX5_findLateShips yX5_findLateShips ∈ TB := TB_mem (List.mem_of_getElem? (i := 5) (by decide +kernel)) rfl
theorem ms_X5_missedConvoy : Cond.selects RX5 yX5_missedConvoy yX5_missedConvoy ∈ TB := TB_mem (List.mem_of_getElem? (i := 6) (by decide +kernel)) rfl
theorem ms_X5_takeLateShip : Cond.selects RX5 yX5_takeLateShip yX5_takeLateShip ∈ TB := TB_mem (List.mem_of_getElem? (i := 7) (by decide +kernel)) rfl
theorem ms_X5_nextConvoy : Cond.selects RX5 yX5_nextConvoy yX5_nextConvoy ∈ TB := TB_mem (List.mem_of_getElem? (i := 8) (by decide +kernel)) rfl
theorem ms_X5_moveShips : Cond.selects RX5 yX5_moveShips yX5_moveShips ∈ TB := TB_mem (List.mem_of_getElem? (i := 9) (by decide +kernel)) rfl
theorem ms_X5_moveWithin : Cond.selects RX5 yX5_moveWithin yX5_moveWithin ∈ TB := TB_mem (List.mem_of_getElem? (i := 10) (by decide +kernel)) rfl
theorem ms_X5_leaves : Cond.selects RX5 yX5_leaves yX5_leaves ∈ TB := TB_mem (List.mem_of_getElem? (i := 11) (by decide +kernel)) rfl
theorem ms_X5_causeAgainst : Cond.selects RX5 yX5_causeAgainst yX5_causeAgainst ∈ TB := TB_mem (List.mem_of_getElem? (i := 12) (by decide +kernel)) rfl
theorem ms_X5_reachesShip : Cond.selects RX5 yX5_reachesShip yX5_reachesShip ∈ TB := TB_mem (List.mem_of_getElem? (i := 13) (by decide +kernel)) rfl
theorem ms_X5_depthNow : Cond.selects RX5 yX5_depthNow yX5_depthNow ∈ TB := TB_mem (List.mem_of_getElem? (i := 14) (by decide +kernel)) rfl
theorem ms_X5_ofThisHour : Cond.selects RX5 yX5_ofThisHour yX5_ofThisHour ∈ TB := TB_mem (List.mem_of_getElem? (i := 15) (by decide +kernel)) rfl
theorem ms_X5_windBarsGreat : Cond.selects RX5 yX5_windBarsGreat yX5_windBarsGreat ∈ TB := TB_mem (List.mem_of_getElem? (i := 16) (by decide +kernel)) rfl
theorem ms_X5_comesInto : Cond.selects RX5 yX5_comesInto yX5_comesInto ∈ TB := TB_mem (List.mem_of_getElem? (i := 17) (by decide +kernel)) rfl
theorem ms_X5_letFirstIn : Cond.selects RX5 yX5_letFirstIn yX5_letFirstIn ∈ TB := TB_mem (List.mem_of_getElem? (i := 18) (by decide +kernel)) rfl
theorem ms_X5_shipsThat : Cond.selects RX5 yX5_shipsThat yX5_shipsThat ∈ TB := TB_mem (List.mem_of_getElem? (i := 19) (by decide +kernel)) rfl
theorem ms_X5_mostWaysInOneSection : Cond.selects RX5 yX5_mostWaysInOneSection yX5_mostWaysInOneSection ∈ TB := TB_mem (List.mem_of_getElem? (i := 20) (by decide +kernel)) rfl
theorem ms_X6_starts : Cond.selects RX6 yX6_starts yX6_starts ∈ TB := TB_mem (List.mem_of_getElem? (i := 21) (by decide +kernel)) rfl
theorem ms_X6_joins : Cond.selects RX6 yX6_joins yX6_joins ∈ TB := TB_mem (List.mem_of_getElem? (i := 22) (by decide +kernel)) rfl
theorem ms_X6_lates : Cond.selects RX6 yX6_lates yX6_lates ∈ TB := TB_mem (List.mem_of_getElem? (i := 23) (by decide +kernel)) rfl
theorem ms_X6_nextConvoy : Cond.selects RX6 yX6_nextConvoy yX6_nextConvoy ∈ TB := TB_mem (List.mem_of_getElem? (i := 24) (by decide +kernel)) rfl
theorem ms_X6_moves : Cond.selects RX6 yX6_moves yX6_moves ∈ TB := TB_mem (List.mem_of_getElem? (i := 25) (by decide +kernel)) rfl
theorem ms_X6_goes : Cond.selects RX6 yX6_goes yX6_goes ∈ TB := TB_mem (List.mem_of_getElem? (i := 26) (by decide +kernel)) rfl
theorem ms_X6_leaves : Cond.selects RX6 yX6_leaves yX6_leaves ∈ TB := TB_mem (List.mem_of_getElem? (i := 27) (by decide +kernel)) rfl
theorem ms_X6_cause : Cond.selects RX6 yX6_cause yX6_cause ∈ TB := TB_mem (List.mem_of_getElem? (i := 28) (by decide +kernel)) rfl
theorem ms_X6_isAground : Cond.selects RX6 yX6_isAground yX6_isAground ∈ TB := TB_mem (List.mem_of_getElem? (i := 29) (by decide +kernel)) rfl
theorem ms_X6_isOncoming : Cond.selects RX6 yX6_isOncoming yX6_isOncoming ∈ TB := TB_mem (List.mem_of_getElem? (i := 30) (by decide +kernel)) rfl
theorem ms_X6_enters : Cond.selects RX6 yX6_enters yX6_enters ∈ TB := TB_mem (List.mem_of_getElem? (i := 31) (by decide +kernel)) rfl
theorem ms_X6_comesIn : Cond.selects RX6 yX6_comesIn yX6_comesIn ∈ TB := TB_mem (List.mem_of_getElem? (i := 32) (by decide +kernel)) rfl
theorem ms_X6_dues : Cond.selects RX6 yX6_dues yX6_dues ∈ TB := TB_mem (List.mem_of_getElem? (i := 33) (by decide +kernel)) rfl
theorem ms_X6_several : Cond.selects RX6 yX6_several yX6_several ∈ TB := TB_mem (List.mem_of_getElem? (i := 34) (by decide +kernel)) rfl
theorem in_L : Cond.initialized RL ∈ TB := TB_mem (List.mem_of_getElem? (i := 35) (by decide +kernel)) rfl
theorem in_X5 : Cond.initialized RX5 ∈ TB := TB_mem (List.mem_of_getElem? (i := 36) (by decide +kernel)) rfl
theorem in_X2 : Cond.initialized RX2 ∈ TB := TB_mem (List.mem_of_getElem? (i := 37) (by decide +kernel)) rfl
theorem in_math : Cond.initialized "java/lang/Math" ∈ TB := TB_mem (List.mem_of_getElem? (i := 38) (by decide +kernel)) rfl
theorem in_X3 : Cond.initialized RX3 ∈ TB := TB_mem (List.mem_of_getElem? (i := 39) (by decide +kernel)) rfl
theorem in_X1 : Cond.initialized RX1 ∈ TB := TB_mem (List.mem_of_getElem? (i := 40) (by decide +kernel)) rfl
theorem in_X6 : Cond.initialized RX6 ∈ TB := TB_mem (List.mem_of_getElem? (i := 41) (by decide +kernel)) rfl
theorem in_X4 : Cond.initialized RX4 ∈ TB := TB_mem (List.mem_of_getElem? (i := 42) (by decide +kernel)) rfl
theorem in_X0 : Cond.initialized RX0 ∈ TB := TB_mem (List.mem_of_getElem? (i := 43) (by decide +kernel)) rfl
theorem clL_7 : Cond.classLink RL 7 RX5 ∈ TB := TB_mem (List.mem_of_getElem? (i := 44) (by decide +kernel)) rfl
theorem ci_X5 : Cond.instantiable RX5 11 ∈ TB := TB_mem (List.mem_of_getElem? (i := 45) (by decide +kernel)) rfl
theorem mlL_9 : Cond.methodLink RL 9 yX5_init ∈ TB := TB_mem (List.mem_of_getElem? (i := 46) (by decide +kernel)) rfl
theorem mi_X5_init : Cond.instanceMethod yX5_init ∈ TB := TB_mem (List.mem_of_getElem? (i := 47) (by decide +kernel)) rfl
set_option maxRecDepth 100000 in
theorem mc_X5_init : Cond.code yX5_init cX5_init 2 none ∈ TB := TB_mem (List.mem_of_getElem? (i := 48) (rfl)) rfl
theorem mlX5_3 : Cond.methodLink RX5 3 Lib.objectInit ∈ TB := TB_mem (List.mem_of_getElem? (i := 49) (by decide +kernel)) rfl
theorem mi_obj : Cond.instanceMethod Lib.objectInit ∈ TB := TB_mem (List.mem_of_getElem? (i := 50) (by decide +kernel)) rfl
theorem mc_obj : Cond.code Lib.objectInit ⟨#[0xb1]⟩ 1 none ∈ TB := TB_mem (List.mem_of_getElem? (i := 51) (rfl)) rfl
theorem clX5_9 : Cond.classLink RX5 9 RX3 ∈ TB := TB_mem (List.mem_of_getElem? (i := 52) (by decide +kernel)) rfl
theorem ao_X3 : Cond.arrayOver (.object RX3) ∈ lw_tbl := List.mem_of_getElem? (i := 53) (by decide +kernel)
theorem clX5_22 : Cond.classLink RX5 22 RX2 ∈ TB := TB_mem (List.mem_of_getElem? (i := 54) (by decide +kernel)) rfl
theorem ci_X2 : Cond.instantiable RX2 2 ∈ TB := TB_mem (List.mem_of_getElem? (i := 55) (by decide +kernel)) rfl
theorem mlX5_24 : Cond.methodLink RX5 24 yX2_init ∈ TB := TB_mem (List.mem_of_getElem? (i := 56) (by decide +kernel)) rfl
theorem mi_X2_init : Cond.instanceMethod yX2_init ∈ TB := TB_mem (List.mem_of_getElem? (i := 57) (by decide +kernel)) rfl
set_option maxRecDepth 100000 in
theorem mc_X2_init : Cond.code yX2_init cX2_init 2 none ∈ TB := TB_mem (List.mem_of_getElem? (i := 58) (rfl)) rfl
theorem mlX2_3 : Cond.methodLink RX2 3 Lib.objectInit ∈ TB := TB_mem (List.mem_of_getElem? (i := 59) (by decide +kernel)) rfl
theorem mlX2_15 : Cond.methodLink RX2 15 Lib.Math.max.name ∈ TB := TB_mem (List.mem_of_getElem? (i := 60) (by decide +kernel)) rfl
theorem mt_math_max : Cond.static Lib.Math.max.name ∈ TB := TB_mem (List.mem_of_getElem? (i := 61) (by decide +kernel)) rfl
theorem mc_math_max : Cond.code Lib.Math.max.name Lib.Math.max.code 2 (some .int) ∈ TB := TB_mem (List.mem_of_getElem? (i := 62) (by decide +kernel)) rfl
theorem clX2_21 : Cond.classLink RX2 21 RX4 ∈ TB := TB_mem (List.mem_of_getElem? (i := 63) (by decide +kernel)) rfl
theorem ao_X4 : Cond.arrayOver (.object RX4) ∈ lw_tbl := List.mem_of_getElem? (i := 64) (by decide +kernel)
theorem flX2_23 : FL RX2 23 2 0 := TB_mem (List.mem_of_getElem? (i := 65) (by decide +kernel)) rfl
theorem flX2_9 : FL RX2 9 2 1 := TB_mem (List.mem_of_getElem? (i := 66) (by decide +kernel)) rfl
theorem fnX3_39 : FN RX3 39 2 1 := ⟨"ShipCut", NW_mem (List.mem_of_getElem? (i := 67) (by decide +kernel)) rfl⟩
theorem fnX5_84 : FN RX5 84 2 1 := ⟨"ShipCut", NW_mem (List.mem_of_getElem? (i := 68) (by decide +kernel)) rfl⟩
theorem ac_int : Cond.arrayClass .int ∈ TB := TB_mem (List.mem_of_getElem? (i := 74) (by decide +kernel)) rfl
theorem clX5_31 : Cond.classLink RX5 31 RX0 ∈ TB := TB_mem (List.mem_of_getElem? (i := 75) (by decide +kernel)) rfl
theorem ao_X0 : Cond.arrayOver (.object RX0) ∈ lw_tbl := List.mem_of_getElem? (i := 76) (by decide +kernel)
theorem ci_X3 : Cond.instantiable RX3 6 ∈ TB := TB_mem (List.mem_of_getElem? (i := 77) (by decide +kernel)) rfl
theorem mlX5_56 : Cond.methodLink RX5 56 yX3_init ∈ TB := TB_mem (List.mem_of_getElem? (i := 78) (by decide +kernel)) rfl
theorem mi_X3_init : Cond.instanceMethod yX3_init ∈ TB := TB_mem (List.mem_of_getElem? (i := 79) (by decide +kernel)) rfl
set_option maxRecDepth 100000 in
theorem mc_X3_init : Cond.code yX3_init cX3_init 2 none ∈ TB := TB_mem (List.mem_of_getElem? (i := 80) (rfl)) rfl
theorem mlX3_3 : Cond.methodLink RX3 3 Lib.objectInit ∈ TB := TB_mem (List.mem_of_getElem? (i := 81) (by decide +kernel)) rfl
theorem clX3_22 : Cond.classLink RX3 22 RX1 ∈ TB := TB_mem (List.mem_of_getElem? (i := 82) (by decide +kernel)) rfl
theorem ci_X1 : Cond.instantiable RX1 2 ∈ TB := TB_mem (List.mem_of_getElem? (i := 83) (by decide +kernel)) rfl
theorem mnX3_24 : Cond.methodLinkNest RX3 24 yX1_init "ShipCut" ∈ NW := NW_mem (List.mem_of_getElem? (i := 84) (by decide +kernel)) rfl
theorem mi_X1_init : Cond.instanceMethod yX1_init ∈ TB := TB_mem (List.mem_of_getElem? (i := 85) (by decide +kernel)) rfl
set_option maxRecDepth 100000 in
theorem mc_X1_init : Cond.code yX1_init cX1_init 1 none ∈ TB := TB_mem (List.mem_of_getElem? (i := 86) (rfl)) rfl
theorem mlX1_3 : Cond.methodLink RX1 3 Lib.objectInit ∈ TB := TB_mem (List.mem_of_getElem? (i := 87) (by decide +kernel)) rfl
theorem clX1_9 : Cond.classLink RX1 9 RX2 ∈ TB := TB_mem (List.mem_of_getElem? (i := 88) (by decide +kernel)) rfl
theorem mlX1_11 : Cond.methodLink RX1 11 yX2_init ∈ TB := TB_mem (List.mem_of_getElem? (i := 89) (by decide +kernel)) rfl
theorem flX1_14 : FL RX1 14 1 0 := TB_mem (List.mem_of_getElem? (i := 90) (by decide +kernel)) rfl
theorem fnX3_35 : FN RX3 35 1 0 := ⟨"ShipCut", NW_mem (List.mem_of_getElem? (i := 91) (by decide +kernel)) rfl⟩
theorem fnX5_176 : FN RX5 176 1 0 := ⟨"ShipCut", NW_mem (List.mem_of_getElem? (i := 92) (by decide +kernel)) rfl⟩
theorem flX1_20 : FL RX1 20 1 1 := TB_mem (List.mem_of_getElem? (i := 93) (by decide +kernel)) rfl
theorem fnX5_216 : FN RX5 216 1 1 := ⟨"ShipCut", NW_mem (List.mem_of_getElem? (i := 94) (by decide +kernel)) rfl⟩
theorem flX3_32 : FL RX3 32 3 0 := TB_mem (List.mem_of_getElem? (i := 100) (by decide +kernel)) rfl
theorem fnX5_196 : FN RX5 196 3 0 := ⟨"ShipCut", NW_mem (List.mem_of_getElem? (i := 101) (by decide +kernel)) rfl⟩
theorem flX3_9 : FL RX3 9 3 1 := TB_mem (List.mem_of_getElem? (i := 102) (by decide +kernel)) rfl
theorem fnX5_65 : FN RX5 65 3 1 := ⟨"ShipCut", NW_mem (List.mem_of_getElem? (i := 103) (by decide +kernel)) rfl⟩
theorem flX3_15 : FL RX3 15 3 2 := TB_mem (List.mem_of_getElem? (i := 104) (by decide +kernel)) rfl
theorem fnX5_68 : FN RX5 68 3 2 := ⟨"ShipCut", NW_mem (List.mem_of_getElem? (i := 105) (by decide +kernel)) rfl⟩
theorem flX3_18 : FL RX3 18 3 3 := TB_mem (List.mem_of_getElem? (i := 106) (by decide +kernel)) rfl
theorem fnX5_71 : FN RX5 71 3 3 := ⟨"ShipCut", NW_mem (List.mem_of_getElem? (i := 107) (by decide +kernel)) rfl⟩
theorem flX3_25 : FL RX3 25 3 4 := TB_mem (List.mem_of_getElem? (i := 108) (by decide +kernel)) rfl
theorem fnX5_222 : FN RX5 222 3 4 := ⟨"ShipCut", NW_mem (List.mem_of_getElem? (i := 109) (by decide +kernel)) rfl⟩
theorem flX3_29 : FL RX3 29 3 5 := TB_mem (List.mem_of_getElem? (i := 110) (by decide +kernel)) rfl
theorem fnX5_229 : FN RX5 229 3 5 := ⟨"ShipCut", NW_mem (List.mem_of_getElem? (i := 111) (by decide +kernel)) rfl⟩
theorem flX5_11 : FL RX5 11 5 0 := TB_mem (List.mem_of_getElem? (i := 125) (by decide +kernel)) rfl
theorem flX5_15 : FL RX5 15 5 1 := TB_mem (List.mem_of_getElem? (i := 126) (by decide +kernel)) rfl
theorem flX5_19 : FL RX5 19 5 2 := TB_mem (List.mem_of_getElem? (i := 127) (by decide +kernel)) rfl
theorem flX5_27 : FL RX5 27 5 3 := TB_mem (List.mem_of_getElem? (i := 128) (by decide +kernel)) rfl
theorem flX5_33 : FL RX5 33 5 4 := TB_mem (List.mem_of_getElem? (i := 129) (by decide +kernel)) rfl
theorem flX5_37 : FL RX5 37 5 5 := TB_mem (List.mem_of_getElem? (i := 130) (by decide +kernel)) rfl
theorem flX5_41 : FL RX5 41 5 6 := TB_mem (List.mem_of_getElem? (i := 131) (by decide +kernel)) rfl
theorem flX5_44 : FL RX5 44 5 7 := TB_mem (List.mem_of_getElem? (i := 132) (by decide +kernel)) rfl
theorem flX5_47 : FL RX5 47 5 8 := TB_mem (List.mem_of_getElem? (i := 133) (by decide +kernel)) rfl
theorem flX5_50 : FL RX5 50 5 9 := TB_mem (List.mem_of_getElem? (i := 134) (by decide +kernel)) rfl
theorem flX5_53 : FL RX5 53 5 10 := TB_mem (List.mem_of_getElem? (i := 135) (by decide +kernel)) rfl
theorem mlL_13 : Cond.methodLink RL 13 yX5_section ∈ TB := TB_mem (List.mem_of_getElem? (i := 159) (by decide +kernel)) rfl
theorem mi_X5_section : Cond.instanceMethod yX5_section ∈ TB := TB_mem (List.mem_of_getElem? (i := 160) (by decide +kernel)) rfl
theorem ms_X5_section : Cond.selects RX5 yX5_section yX5_section ∈ TB := TB_mem (List.mem_of_getElem? (i := 161) (by decide +kernel)) rfl
set_option maxRecDepth 100000 in
theorem mc_X5_section : Cond.code yX5_section cX5_section 6 (some .int) ∈ TB := TB_mem (List.mem_of_getElem? (i := 162) (rfl)) rfl
theorem mlX5_57 : Cond.methodLink RX5 57 yX5_sectionAt ∈ TB := TB_mem (List.mem_of_getElem? (i := 163) (by decide +kernel)) rfl
theorem mi_X5_sectionAt : Cond.instanceMethod yX5_sectionAt ∈ TB := TB_mem (List.mem_of_getElem? (i := 165) (by decide +kernel)) rfl
set_option maxRecDepth 100000 in
theorem mc_X5_sectionAt : Cond.code yX5_sectionAt cX5_sectionAt 2 (some (.object "ShipCut$Section")) ∈ TB := TB_mem (List.mem_of_getElem? (i := 166) (rfl)) rfl
theorem mlX5_61 : Cond.methodLink RX5 61 yX5_within ∈ TB := TB_mem (List.mem_of_getElem? (i := 167) (by decide +kernel)) rfl
theorem mt_X5_within : Cond.static yX5_within ∈ TB := TB_mem (List.mem_of_getElem? (i := 168) (by decide +kernel)) rfl
set_option maxRecDepth 100000 in
theorem mc_X5_within : Cond.code yX5_within cX5_within 3 (some .boolean) ∈ TB := TB_mem (List.mem_of_getElem? (i := 169) (rfl)) rfl
theorem mlL_18 : Cond.methodLink RL 18 yX5_tide ∈ TB := TB_mem (List.mem_of_getElem? (i := 170) (by decide +kernel)) rfl
theorem mi_X5_tide : Cond.instanceMethod yX5_tide ∈ TB := TB_mem (List.mem_of_getElem? (i := 171) (by decide +kernel)) rfl
theorem ms_X5_tide : Cond.selects RX5 yX5_tide yX5_tide ∈ TB := TB_mem (List.mem_of_getElem? (i := 172) (by decide +kernel)) rfl
set_option maxRecDepth 100000 in
theorem mc_X5_tide : Cond.code yX5_tide cX5_tide 4 (some .int) ∈ TB := TB_mem (List.mem_of_getElem? (i := 173) (rfl)) rfl
theorem mlL_23 : Cond.methodLink RL 23 yX5_wind ∈ TB := TB_mem (List.mem_of_getElem? (i := 174) (by decide +kernel)) rfl
theorem mi_X5_wind : Cond.instanceMethod yX5_wind ∈ TB := TB_mem (List.mem_of_getElem? (i := 175) (by decide +kernel)) rfl
theorem ms_X5_wind : Cond.selects RX5 yX5_wind yX5_wind ∈ TB := TB_mem (List.mem_of_getElem? (i := 176) (by decide +kernel)) rfl
set_option maxRecDepth 100000 in
theorem mc_X5_wind : Cond.code yX5_wind cX5_wind 4 (some .int) ∈ TB := TB_mem (List.mem_of_getElem? (i := 177) (rfl)) rfl
theorem mlL_27 : Cond.methodLink RL 27 yX5_rule ∈ TB := TB_mem (List.mem_of_getElem? (i := 178) (by decide +kernel)) rfl
theorem mi_X5_rule : Cond.instanceMethod yX5_rule ∈ TB := TB_mem (List.mem_of_getElem? (i := 179) (by decide +kernel)) rfl
theorem ms_X5_rule : Cond.selects RX5 yX5_rule yX5_rule ∈ TB := TB_mem (List.mem_of_getElem? (i := 180) (by decide +kernel)) rfl
set_option maxRecDepth 100000 in
theorem mc_X5_rule : Cond.code yX5_rule cX5_rule 4 (some .int) ∈ TB := TB_mem (List.mem_of_getElem? (i := 181) (rfl)) rfl
theorem mlL_31 : Cond.methodLink RL 31 yX5_ship ∈ TB := TB_mem (List.mem_of_getElem? (i := 182) (by decide +kernel)) rfl
theorem mi_X5_ship : Cond.instanceMethod yX5_ship ∈ TB := TB_mem (List.mem_of_getElem? (i := 183) (by decide +kernel)) rfl
theorem ms_X5_ship : Cond.selects RX5 yX5_ship yX5_ship ∈ TB := TB_mem (List.mem_of_getElem? (i := 184) (by decide +kernel)) rfl
set_option maxRecDepth 100000 in
theorem mc_X5_ship : Cond.code yX5_ship cX5_ship 8 (some .int) ∈ TB := TB_mem (List.mem_of_getElem? (i := 185) (rfl)) rfl
theorem mlX5_75 : Cond.methodLink RX5 75 yX5_isWay ∈ TB := TB_mem (List.mem_of_getElem? (i := 186) (by decide +kernel)) rfl
theorem mt_X5_isWay : Cond.static yX5_isWay ∈ TB := TB_mem (List.mem_of_getElem? (i := 187) (by decide +kernel)) rfl
set_option maxRecDepth 100000 in
theorem mc_X5_isWay : Cond.code yX5_isWay cX5_isWay 1 (some .boolean) ∈ TB := TB_mem (List.mem_of_getElem? (i := 188) (rfl)) rfl
theorem ctX5_79 : Cond.constant RX5 79 (200000) ∈ TB := TB_mem (List.mem_of_getElem? (i := 189) (by decide +kernel)) rfl
theorem mlX5_80 : Cond.methodLink RX5 80 yX2_isFull ∈ TB := TB_mem (List.mem_of_getElem? (i := 190) (by decide +kernel)) rfl
theorem mi_X2_isFull : Cond.instanceMethod yX2_isFull ∈ TB := TB_mem (List.mem_of_getElem? (i := 191) (by decide +kernel)) rfl
theorem ms_X2_isFull : Cond.selects RX2 yX2_isFull yX2_isFull ∈ TB := TB_mem (List.mem_of_getElem? (i := 192) (by decide +kernel)) rfl
set_option maxRecDepth 100000 in
theorem mc_X2_isFull : Cond.code yX2_isFull cX2_isFull 1 (some .boolean) ∈ TB := TB_mem (List.mem_of_getElem? (i := 193) (rfl)) rfl
theorem clX5_87 : Cond.classLink RX5 87 RX4 ∈ TB := TB_mem (List.mem_of_getElem? (i := 194) (by decide +kernel)) rfl
theorem ci_X4 : Cond.instantiable RX4 16 ∈ TB := TB_mem (List.mem_of_getElem? (i := 195) (by decide +kernel)) rfl
theorem mlX5_89 : Cond.methodLink RX5 89 yX4_init ∈ TB := TB_mem (List.mem_of_getElem? (i := 196) (by decide +kernel)) rfl
theorem mi_X4_init : Cond.instanceMethod yX4_init ∈ TB := TB_mem (List.mem_of_getElem? (i := 197) (by decide +kernel)) rfl
set_option maxRecDepth 100000 in
theorem mc_X4_init : Cond.code yX4_init cX4_init 8 none ∈ TB := TB_mem (List.mem_of_getElem? (i := 198) (rfl)) rfl
theorem mlX4_3 : Cond.methodLink RX4 3 Lib.objectInit ∈ TB := TB_mem (List.mem_of_getElem? (i := 199) (by decide +kernel)) rfl
theorem flX4_41 : FL RX4 41 4 0 := TB_mem (List.mem_of_getElem? (i := 200) (by decide +kernel)) rfl
theorem fnX2_31 : FN RX2 31 4 0 := ⟨"ShipCut", NW_mem (List.mem_of_getElem? (i := 201) (by decide +kernel)) rfl⟩
theorem flX4_44 : FL RX4 44 4 1 := TB_mem (List.mem_of_getElem? (i := 202) (by decide +kernel)) rfl
theorem fnX5_110 : FN RX5 110 4 1 := ⟨"ShipCut", NW_mem (List.mem_of_getElem? (i := 203) (by decide +kernel)) rfl⟩
theorem flX4_47 : FL RX4 47 4 2 := TB_mem (List.mem_of_getElem? (i := 204) (by decide +kernel)) rfl
theorem fnX5_117 : FN RX5 117 4 2 := ⟨"ShipCut", NW_mem (List.mem_of_getElem? (i := 205) (by decide +kernel)) rfl⟩
theorem flX4_50 : FL RX4 50 4 3 := TB_mem (List.mem_of_getElem? (i := 206) (by decide +kernel)) rfl
theorem fnX5_242 : FN RX5 242 4 3 := ⟨"ShipCut", NW_mem (List.mem_of_getElem? (i := 207) (by decide +kernel)) rfl⟩
theorem flX4_53 : FL RX4 53 4 4 := TB_mem (List.mem_of_getElem? (i := 208) (by decide +kernel)) rfl
theorem fnX5_235 : FN RX5 235 4 4 := ⟨"ShipCut", NW_mem (List.mem_of_getElem? (i := 209) (by decide +kernel)) rfl⟩
theorem flX4_56 : FL RX4 56 4 5 := TB_mem (List.mem_of_getElem? (i := 210) (by decide +kernel)) rfl
theorem fnX5_219 : FN RX5 219 4 5 := ⟨"ShipCut", NW_mem (List.mem_of_getElem? (i := 211) (by decide +kernel)) rfl⟩
theorem flX4_59 : FL RX4 59 4 6 := TB_mem (List.mem_of_getElem? (i := 212) (by decide +kernel)) rfl
theorem flX4_9 : FL RX4 9 4 7 := TB_mem (List.mem_of_getElem? (i := 213) (by decide +kernel)) rfl
theorem fnX5_259 : FN RX5 259 4 7 := ⟨"ShipCut", NW_mem (List.mem_of_getElem? (i := 214) (by decide +kernel)) rfl⟩
theorem flX4_15 : FL RX4 15 4 8 := TB_mem (List.mem_of_getElem? (i := 215) (by decide +kernel)) rfl
theorem fnX5_199 : FN RX5 199 4 8 := ⟨"ShipCut", NW_mem (List.mem_of_getElem? (i := 216) (by decide +kernel)) rfl⟩
theorem flX4_19 : FL RX4 19 4 9 := TB_mem (List.mem_of_getElem? (i := 217) (by decide +kernel)) rfl
theorem fnX5_193 : FN RX5 193 4 9 := ⟨"ShipCut", NW_mem (List.mem_of_getElem? (i := 218) (by decide +kernel)) rfl⟩
theorem flX4_22 : FL RX4 22 4 10 := TB_mem (List.mem_of_getElem? (i := 219) (by decide +kernel)) rfl
theorem fnX5_162 : FN RX5 162 4 10 := ⟨"ShipCut", NW_mem (List.mem_of_getElem? (i := 220) (by decide +kernel)) rfl⟩
theorem flX4_26 : FL RX4 26 4 11 := TB_mem (List.mem_of_getElem? (i := 221) (by decide +kernel)) rfl
theorem fnX5_169 : FN RX5 169 4 11 := ⟨"ShipCut", NW_mem (List.mem_of_getElem? (i := 222) (by decide +kernel)) rfl⟩
theorem flX4_29 : FL RX4 29 4 12 := TB_mem (List.mem_of_getElem? (i := 223) (by decide +kernel)) rfl
theorem fnX5_213 : FN RX5 213 4 12 := ⟨"ShipCut", NW_mem (List.mem_of_getElem? (i := 224) (by decide +kernel)) rfl⟩
theorem flX4_32 : FL RX4 32 4 13 := TB_mem (List.mem_of_getElem? (i := 225) (by decide +kernel)) rfl
theorem fnX5_202 : FN RX5 202 4 13 := ⟨"ShipCut", NW_mem (List.mem_of_getElem? (i := 226) (by decide +kernel)) rfl⟩
theorem flX4_35 : FL RX4 35 4 14 := TB_mem (List.mem_of_getElem? (i := 227) (by decide +kernel)) rfl
theorem fnX5_111 : FN RX5 111 4 14 := ⟨"ShipCut", NW_mem (List.mem_of_getElem? (i := 228) (by decide +kernel)) rfl⟩
theorem flX4_38 : FL RX4 38 4 15 := TB_mem (List.mem_of_getElem? (i := 229) (by decide +kernel)) rfl
theorem fnX5_129 : FN RX5 129 4 15 := ⟨"ShipCut", NW_mem (List.mem_of_getElem? (i := 230) (by decide +kernel)) rfl⟩
theorem mlX5_92 : Cond.methodLink RX5 92 yX2_add ∈ TB := TB_mem (List.mem_of_getElem? (i := 264) (by decide +kernel)) rfl
theorem mi_X2_add : Cond.instanceMethod yX2_add ∈ TB := TB_mem (List.mem_of_getElem? (i := 265) (by decide +kernel)) rfl
theorem ms_X2_add : Cond.selects RX2 yX2_add yX2_add ∈ TB := TB_mem (List.mem_of_getElem? (i := 266) (by decide +kernel)) rfl
set_option maxRecDepth 100000 in
theorem mc_X2_add : Cond.code yX2_add cX2_add 2 none ∈ TB := TB_mem (List.mem_of_getElem? (i := 267) (rfl)) rfl
theorem mlL_36 : Cond.methodLink RL 36 yX5_convoy ∈ TB := TB_mem (List.mem_of_getElem? (i := 268) (by decide +kernel)) rfl
theorem mi_X5_convoy : Cond.instanceMethod yX5_convoy ∈ TB := TB_mem (List.mem_of_getElem? (i := 269) (by decide +kernel)) rfl
theorem ms_X5_convoy : Cond.selects RX5 yX5_convoy yX5_convoy ∈ TB := TB_mem (List.mem_of_getElem? (i := 270) (by decide +kernel)) rfl
set_option maxRecDepth 100000 in
theorem mc_X5_convoy : Cond.code yX5_convoy cX5_convoy 3 (some .int) ∈ TB := TB_mem (List.mem_of_getElem? (i := 271) (rfl)) rfl
theorem ci_X0 : Cond.instantiable RX0 4 ∈ TB := TB_mem (List.mem_of_getElem? (i := 272) (by decide +kernel)) rfl
theorem mlX5_96 : Cond.methodLink RX5 96 yX0_init ∈ TB := TB_mem (List.mem_of_getElem? (i := 273) (by decide +kernel)) rfl
theorem mi_X0_init : Cond.instanceMethod yX0_init ∈ TB := TB_mem (List.mem_of_getElem? (i := 274) (by decide +kernel)) rfl
set_option maxRecDepth 100000 in
theorem mc_X0_init : Cond.code yX0_init cX0_init 3 none ∈ TB := TB_mem (List.mem_of_getElem? (i := 275) (rfl)) rfl
theorem mlX0_3 : Cond.methodLink RX0 3 Lib.objectInit ∈ TB := TB_mem (List.mem_of_getElem? (i := 276) (by decide +kernel)) rfl
theorem clX0_9 : Cond.classLink RX0 9 RX2 ∈ TB := TB_mem (List.mem_of_getElem? (i := 277) (by decide +kernel)) rfl
theorem mlX0_11 : Cond.methodLink RX0 11 yX2_init ∈ TB := TB_mem (List.mem_of_getElem? (i := 278) (by decide +kernel)) rfl
theorem flX0_23 : FL RX0 23 0 0 := TB_mem (List.mem_of_getElem? (i := 279) (by decide +kernel)) rfl
theorem fnX5_107 : FN RX5 107 0 0 := ⟨"ShipCut", NW_mem (List.mem_of_getElem? (i := 280) (by decide +kernel)) rfl⟩
theorem flX0_27 : FL RX0 27 0 1 := TB_mem (List.mem_of_getElem? (i := 281) (by decide +kernel)) rfl
theorem fnX5_114 : FN RX5 114 0 1 := ⟨"ShipCut", NW_mem (List.mem_of_getElem? (i := 282) (by decide +kernel)) rfl⟩
theorem flX0_14 : FL RX0 14 0 2 := TB_mem (List.mem_of_getElem? (i := 283) (by decide +kernel)) rfl
theorem fnX5_120 : FN RX5 120 0 2 := ⟨"ShipCut", NW_mem (List.mem_of_getElem? (i := 284) (by decide +kernel)) rfl⟩
theorem flX0_20 : FL RX0 20 0 3 := TB_mem (List.mem_of_getElem? (i := 285) (by decide +kernel)) rfl
theorem fnX5_148 : FN RX5 148 0 3 := ⟨"ShipCut", NW_mem (List.mem_of_getElem? (i := 286) (by decide +kernel)) rfl⟩
theorem mlL_40 : Cond.methodLink RL 40 yX5_book ∈ TB := TB_mem (List.mem_of_getElem? (i := 296) (by decide +kernel)) rfl
theorem mi_X5_book : Cond.instanceMethod yX5_book ∈ TB := TB_mem (List.mem_of_getElem? (i := 297) (by decide +kernel)) rfl
theorem ms_X5_book : Cond.selects RX5 yX5_book yX5_book ∈ TB := TB_mem (List.mem_of_getElem? (i := 298) (by decide +kernel)) rfl
set_option maxRecDepth 100000 in
theorem mc_X5_book : Cond.code yX5_book cX5_book 5 (some .int) ∈ TB := TB_mem (List.mem_of_getElem? (i := 299) (rfl)) rfl
theorem mlX5_99 : Cond.methodLink RX5 99 yX5_convoyAt ∈ TB := TB_mem (List.mem_of_getElem? (i := 300) (by decide +kernel)) rfl
theorem mi_X5_convoyAt : Cond.instanceMethod yX5_convoyAt ∈ TB := TB_mem (List.mem_of_getElem? (i := 302) (by decide +kernel)) rfl
set_option maxRecDepth 100000 in
theorem mc_X5_convoyAt : Cond.code yX5_convoyAt cX5_convoyAt 2 (some (.object "ShipCut$Convoy")) ∈ TB := TB_mem (List.mem_of_getElem? (i := 303) (rfl)) rfl
theorem mlX5_103 : Cond.methodLink RX5 103 yX2_at ∈ TB := TB_mem (List.mem_of_getElem? (i := 304) (by decide +kernel)) rfl
theorem mi_X2_at : Cond.instanceMethod yX2_at ∈ TB := TB_mem (List.mem_of_getElem? (i := 305) (by decide +kernel)) rfl
theorem ms_X2_at : Cond.selects RX2 yX2_at yX2_at ∈ TB := TB_mem (List.mem_of_getElem? (i := 306) (by decide +kernel)) rfl
set_option maxRecDepth 100000 in
theorem mc_X2_at : Cond.code yX2_at cX2_at 2 (some (.object "ShipCut$Ship")) ∈ TB := TB_mem (List.mem_of_getElem? (i := 307) (rfl)) rfl
theorem mlL_44 : Cond.methodLink RL 44 yX5_ground ∈ TB := TB_mem (List.mem_of_getElem? (i := 308) (by decide +kernel)) rfl
theorem mi_X5_ground : Cond.instanceMethod yX5_ground ∈ TB := TB_mem (List.mem_of_getElem? (i := 309) (by decide +kernel)) rfl
theorem ms_X5_ground : Cond.selects RX5 yX5_ground yX5_ground ∈ TB := TB_mem (List.mem_of_getElem? (i := 310) (by decide +kernel)) rfl
set_option maxRecDepth 100000 in
theorem mc_X5_ground : Cond.code yX5_ground cX5_ground 4 (some .int) ∈ TB := TB_mem (List.mem_of_getElem? (i := 311) (rfl)) rfl
theorem mlX5_123 : Cond.methodLink RX5 123 yX4_isInSection ∈ TB := TB_mem (List.mem_of_getElem? (i := 312) (by decide +kernel)) rfl
theorem mi_X4_isInSection : Cond.instanceMethod yX4_isInSection ∈ TB := TB_mem (List.mem_of_getElem? (i := 313) (by decide +kernel)) rfl
theorem ms_X4_isInSection : Cond.selects RX4 yX4_isInSection yX4_isInSection ∈ TB := TB_mem (List.mem_of_getElem? (i := 314) (by decide +kernel)) rfl
set_option maxRecDepth 100000 in
theorem mc_X4_isInSection : Cond.code yX4_isInSection cX4_isInSection 1 (some .boolean) ∈ TB := TB_mem (List.mem_of_getElem? (i := 315) (rfl)) rfl
theorem mlX5_126 : Cond.methodLink RX5 126 yX4_isAground ∈ TB := TB_mem (List.mem_of_getElem? (i := 316) (by decide +kernel)) rfl
theorem mi_X4_isAground : Cond.instanceMethod yX4_isAground ∈ TB := TB_mem (List.mem_of_getElem? (i := 317) (by decide +kernel)) rfl
theorem ms_X4_isAground : Cond.selects RX4 yX4_isAground yX4_isAground ∈ TB := TB_mem (List.mem_of_getElem? (i := 318) (by decide +kernel)) rfl
set_option maxRecDepth 100000 in
theorem mc_X4_isAground : Cond.code yX4_isAground cX4_isAground 2 (some .boolean) ∈ TB := TB_mem (List.mem_of_getElem? (i := 319) (rfl)) rfl
theorem mlL_48 : Cond.methodLink RL 48 yX5_minutes ∈ TB := TB_mem (List.mem_of_getElem? (i := 320) (by decide +kernel)) rfl
theorem mi_X5_minutes : Cond.instanceMethod yX5_minutes ∈ TB := TB_mem (List.mem_of_getElem? (i := 321) (by decide +kernel)) rfl
theorem ms_X5_minutes : Cond.selects RX5 yX5_minutes yX5_minutes ∈ TB := TB_mem (List.mem_of_getElem? (i := 322) (by decide +kernel)) rfl
set_option maxRecDepth 100000 in
theorem mc_X5_minutes : Cond.code yX5_minutes cX5_minutes 3 (some .int) ∈ TB := TB_mem (List.mem_of_getElem? (i := 323) (rfl)) rfl
theorem mlX5_132 : Cond.methodLink RX5 132 yX5_startConvoys ∈ TB := TB_mem (List.mem_of_getElem? (i := 324) (by decide +kernel)) rfl
theorem mi_X5_startConvoys : Cond.instanceMethod yX5_startConvoys ∈ TB := TB_mem (List.mem_of_getElem? (i := 326) (by decide +kernel)) rfl
set_option maxRecDepth 100000 in
theorem mc_X5_startConvoys : Cond.code yX5_startConvoys cX5_startConvoys 3 none ∈ TB := TB_mem (List.mem_of_getElem? (i := 327) (rfl)) rfl
theorem mlX5_144 : Cond.methodLink RX5 144 yX5_joinLine ∈ TB := TB_mem (List.mem_of_getElem? (i := 328) (by decide +kernel)) rfl
theorem mi_X5_joinLine : Cond.instanceMethod yX5_joinLine ∈ TB := TB_mem (List.mem_of_getElem? (i := 330) (by decide +kernel)) rfl
set_option maxRecDepth 100000 in
theorem mc_X5_joinLine : Cond.code yX5_joinLine cX5_joinLine 4 none ∈ TB := TB_mem (List.mem_of_getElem? (i := 331) (rfl)) rfl
theorem mlX5_151 : Cond.methodLink RX5 151 yX5_lineOf ∈ TB := TB_mem (List.mem_of_getElem? (i := 332) (by decide +kernel)) rfl
theorem mi_X5_lineOf : Cond.instanceMethod yX5_lineOf ∈ TB := TB_mem (List.mem_of_getElem? (i := 334) (by decide +kernel)) rfl
set_option maxRecDepth 100000 in
theorem mc_X5_lineOf : Cond.code yX5_lineOf cX5_lineOf 2 (some (.object "ShipCut$Row")) ∈ TB := TB_mem (List.mem_of_getElem? (i := 335) (rfl)) rfl
theorem mlX5_135 : Cond.methodLink RX5 135 yX5_findLateShips ∈ TB := TB_mem (List.mem_of_getElem? (i := 336) (by decide +kernel)) rfl
theorem mi_X5_findLateShips : Cond.instanceMethod yX5_findLateShips ∈ TB := TB_mem (List.mem_of_getElem? (i := 338) (by decide +kernel)) rfl
set_option maxRecDepth 100000 in
theorem mc_X5_findLateShips : Cond.code yX5_findLateShips cX5_findLateShips 3 none ∈ TB := TB_mem (List.mem_of_getElem? (i := 339) (rfl)) rfl
theorem mlX5_155 : Cond.methodLink RX5 155 yX5_missedConvoy ∈ TB := TB_mem (List.mem_of_getElem? (i := 340) (by decide +kernel)) rfl
theorem mi_X5_missedConvoy : Cond.instanceMethod yX5_missedConvoy ∈ TB := TB_mem (List.mem_of_getElem? (i := 342) (by decide +kernel)) rfl
set_option maxRecDepth 100000 in
theorem mc_X5_missedConvoy : Cond.code yX5_missedConvoy cX5_missedConvoy 3 (some .boolean) ∈ TB := TB_mem (List.mem_of_getElem? (i := 343) (rfl)) rfl
theorem mlX5_159 : Cond.methodLink RX5 159 yX5_takeLateShip ∈ TB := TB_mem (List.mem_of_getElem? (i := 344) (by decide +kernel)) rfl
theorem mi_X5_takeLateShip : Cond.instanceMethod yX5_takeLateShip ∈ TB := TB_mem (List.mem_of_getElem? (i := 346) (by decide +kernel)) rfl
set_option maxRecDepth 100000 in
theorem mc_X5_takeLateShip : Cond.code yX5_takeLateShip cX5_takeLateShip 4 none ∈ TB := TB_mem (List.mem_of_getElem? (i := 347) (rfl)) rfl
theorem mlX5_165 : Cond.methodLink RX5 165 yX5_nextConvoy ∈ TB := TB_mem (List.mem_of_getElem? (i := 348) (by decide +kernel)) rfl
theorem mi_X5_nextConvoy : Cond.instanceMethod yX5_nextConvoy ∈ TB := TB_mem (List.mem_of_getElem? (i := 350) (by decide +kernel)) rfl
set_option maxRecDepth 100000 in
theorem mc_X5_nextConvoy : Cond.code yX5_nextConvoy cX5_nextConvoy 6 (some .int) ∈ TB := TB_mem (List.mem_of_getElem? (i := 351) (rfl)) rfl
theorem mlX5_138 : Cond.methodLink RX5 138 yX5_moveShips ∈ TB := TB_mem (List.mem_of_getElem? (i := 352) (by decide +kernel)) rfl
theorem mi_X5_moveShips : Cond.instanceMethod yX5_moveShips ∈ TB := TB_mem (List.mem_of_getElem? (i := 354) (by decide +kernel)) rfl
set_option maxRecDepth 100000 in
theorem mc_X5_moveShips : Cond.code yX5_moveShips cX5_moveShips 4 none ∈ TB := TB_mem (List.mem_of_getElem? (i := 355) (rfl)) rfl
theorem mlX5_172 : Cond.methodLink RX5 172 yX3_lane ∈ TB := TB_mem (List.mem_of_getElem? (i := 356) (by decide +kernel)) rfl
theorem mi_X3_lane : Cond.instanceMethod yX3_lane ∈ TB := TB_mem (List.mem_of_getElem? (i := 357) (by decide +kernel)) rfl
theorem ms_X3_lane : Cond.selects RX3 yX3_lane yX3_lane ∈ TB := TB_mem (List.mem_of_getElem? (i := 358) (by decide +kernel)) rfl
set_option maxRecDepth 100000 in
theorem mc_X3_lane : Cond.code yX3_lane cX3_lane 2 (some (.object "ShipCut$Lane")) ∈ TB := TB_mem (List.mem_of_getElem? (i := 359) (rfl)) rfl
theorem mlX5_179 : Cond.methodLink RX5 179 yX5_moveWithin ∈ TB := TB_mem (List.mem_of_getElem? (i := 360) (by decide +kernel)) rfl
theorem mi_X5_moveWithin : Cond.instanceMethod yX5_moveWithin ∈ TB := TB_mem (List.mem_of_getElem? (i := 362) (by decide +kernel)) rfl
set_option maxRecDepth 100000 in
theorem mc_X5_moveWithin : Cond.code yX5_moveWithin cX5_moveWithin 8 none ∈ TB := TB_mem (List.mem_of_getElem? (i := 363) (rfl)) rfl
theorem mlX5_183 : Cond.methodLink RX5 183 yX4_waitBy ∈ TB := TB_mem (List.mem_of_getElem? (i := 364) (by decide +kernel)) rfl
theorem mi_X4_waitBy : Cond.instanceMethod yX4_waitBy ∈ TB := TB_mem (List.mem_of_getElem? (i := 365) (by decide +kernel)) rfl
theorem ms_X4_waitBy : Cond.selects RX4 yX4_waitBy yX4_waitBy ∈ TB := TB_mem (List.mem_of_getElem? (i := 366) (by decide +kernel)) rfl
set_option maxRecDepth 100000 in
theorem mc_X4_waitBy : Cond.code yX4_waitBy cX4_waitBy 2 none ∈ TB := TB_mem (List.mem_of_getElem? (i := 367) (rfl)) rfl
theorem mlX5_186 : Cond.methodLink RX5 186 yX5_leaves ∈ TB := TB_mem (List.mem_of_getElem? (i := 368) (by decide +kernel)) rfl
theorem mi_X5_leaves : Cond.instanceMethod yX5_leaves ∈ TB := TB_mem (List.mem_of_getElem? (i := 370) (by decide +kernel)) rfl
set_option maxRecDepth 100000 in
theorem mc_X5_leaves : Cond.code yX5_leaves cX5_leaves 5 (some .boolean) ∈ TB := TB_mem (List.mem_of_getElem? (i := 371) (rfl)) rfl
theorem mlX5_205 : Cond.methodLink RX5 205 yX5_causeAgainst ∈ TB := TB_mem (List.mem_of_getElem? (i := 372) (by decide +kernel)) rfl
theorem mi_X5_causeAgainst : Cond.instanceMethod yX5_causeAgainst ∈ TB := TB_mem (List.mem_of_getElem? (i := 374) (by decide +kernel)) rfl
set_option maxRecDepth 100000 in
theorem mc_X5_causeAgainst : Cond.code yX5_causeAgainst cX5_causeAgainst 5 (some .int) ∈ TB := TB_mem (List.mem_of_getElem? (i := 375) (rfl)) rfl
theorem mlX5_226 : Cond.methodLink RX5 226 yX2_hasAground ∈ TB := TB_mem (List.mem_of_getElem? (i := 376) (by decide +kernel)) rfl
theorem mi_X2_hasAground : Cond.instanceMethod yX2_hasAground ∈ TB := TB_mem (List.mem_of_getElem? (i := 377) (by decide +kernel)) rfl
theorem ms_X2_hasAground : Cond.selects RX2 yX2_hasAground yX2_hasAground ∈ TB := TB_mem (List.mem_of_getElem? (i := 378) (by decide +kernel)) rfl
set_option maxRecDepth 100000 in
theorem mc_X2_hasAground : Cond.code yX2_hasAground cX2_hasAground 4 (some .boolean) ∈ TB := TB_mem (List.mem_of_getElem? (i := 379) (rfl)) rfl
theorem mlX2_27 : Cond.methodLink RX2 27 yX2_at ∈ TB := TB_mem (List.mem_of_getElem? (i := 380) (by decide +kernel)) rfl
theorem mlX2_34 : Cond.methodLink RX2 34 yX4_isAground ∈ TB := TB_mem (List.mem_of_getElem? (i := 381) (by decide +kernel)) rfl
theorem mlX5_232 : Cond.methodLink RX5 232 yX5_reachesShip ∈ TB := TB_mem (List.mem_of_getElem? (i := 382) (by decide +kernel)) rfl
theorem mi_X5_reachesShip : Cond.instanceMethod yX5_reachesShip ∈ TB := TB_mem (List.mem_of_getElem? (i := 384) (by decide +kernel)) rfl
set_option maxRecDepth 100000 in
theorem mc_X5_reachesShip : Cond.code yX5_reachesShip cX5_reachesShip 7 (some .boolean) ∈ TB := TB_mem (List.mem_of_getElem? (i := 385) (rfl)) rfl
theorem mlX5_238 : Cond.methodLink RX5 238 yX5_depthNow ∈ TB := TB_mem (List.mem_of_getElem? (i := 386) (by decide +kernel)) rfl
theorem mi_X5_depthNow : Cond.instanceMethod yX5_depthNow ∈ TB := TB_mem (List.mem_of_getElem? (i := 388) (by decide +kernel)) rfl
set_option maxRecDepth 100000 in
theorem mc_X5_depthNow : Cond.code yX5_depthNow cX5_depthNow 3 (some .int) ∈ TB := TB_mem (List.mem_of_getElem? (i := 389) (rfl)) rfl
theorem mlX5_248 : Cond.methodLink RX5 248 yX5_ofThisHour ∈ TB := TB_mem (List.mem_of_getElem? (i := 390) (by decide +kernel)) rfl
theorem mi_X5_ofThisHour : Cond.instanceMethod yX5_ofThisHour ∈ TB := TB_mem (List.mem_of_getElem? (i := 392) (by decide +kernel)) rfl
set_option maxRecDepth 100000 in
theorem mc_X5_ofThisHour : Cond.code yX5_ofThisHour cX5_ofThisHour 3 (some .int) ∈ TB := TB_mem (List.mem_of_getElem? (i := 393) (rfl)) rfl
theorem mlX5_245 : Cond.methodLink RX5 245 yX5_windBarsGreat ∈ TB := TB_mem (List.mem_of_getElem? (i := 394) (by decide +kernel)) rfl
theorem mi_X5_windBarsGreat : Cond.instanceMethod yX5_windBarsGreat ∈ TB := TB_mem (List.mem_of_getElem? (i := 396) (by decide +kernel)) rfl
set_option maxRecDepth 100000 in
theorem mc_X5_windBarsGreat : Cond.code yX5_windBarsGreat cX5_windBarsGreat 2 (some .boolean) ∈ TB := TB_mem (List.mem_of_getElem? (i := 397) (rfl)) rfl
theorem mlX5_209 : Cond.methodLink RX5 209 yX5_comesInto ∈ TB := TB_mem (List.mem_of_getElem? (i := 398) (by decide +kernel)) rfl
theorem mi_X5_comesInto : Cond.instanceMethod yX5_comesInto ∈ TB := TB_mem (List.mem_of_getElem? (i := 400) (by decide +kernel)) rfl
set_option maxRecDepth 100000 in
theorem mc_X5_comesInto : Cond.code yX5_comesInto cX5_comesInto 5 (some .boolean) ∈ TB := TB_mem (List.mem_of_getElem? (i := 401) (rfl)) rfl
theorem mlX5_190 : Cond.methodLink RX5 190 yX2_removeFirst ∈ TB := TB_mem (List.mem_of_getElem? (i := 402) (by decide +kernel)) rfl
theorem mi_X2_removeFirst : Cond.instanceMethod yX2_removeFirst ∈ TB := TB_mem (List.mem_of_getElem? (i := 403) (by decide +kernel)) rfl
theorem ms_X2_removeFirst : Cond.selects RX2 yX2_removeFirst yX2_removeFirst ∈ TB := TB_mem (List.mem_of_getElem? (i := 404) (by decide +kernel)) rfl
set_option maxRecDepth 100000 in
theorem mc_X2_removeFirst : Cond.code yX2_removeFirst cX2_removeFirst 2 none ∈ TB := TB_mem (List.mem_of_getElem? (i := 405) (rfl)) rfl
theorem mlX5_141 : Cond.methodLink RX5 141 yX5_letFirstIn ∈ TB := TB_mem (List.mem_of_getElem? (i := 406) (by decide +kernel)) rfl
theorem mi_X5_letFirstIn : Cond.instanceMethod yX5_letFirstIn ∈ TB := TB_mem (List.mem_of_getElem? (i := 408) (by decide +kernel)) rfl
set_option maxRecDepth 100000 in
theorem mc_X5_letFirstIn : Cond.code yX5_letFirstIn cX5_letFirstIn 7 none ∈ TB := TB_mem (List.mem_of_getElem? (i := 409) (rfl)) rfl
theorem mlL_53 : Cond.methodLink RL 53 yX5_told ∈ TB := TB_mem (List.mem_of_getElem? (i := 410) (by decide +kernel)) rfl
theorem mi_X5_told : Cond.instanceMethod yX5_told ∈ TB := TB_mem (List.mem_of_getElem? (i := 411) (by decide +kernel)) rfl
theorem ms_X5_told : Cond.selects RX5 yX5_told yX5_told ∈ TB := TB_mem (List.mem_of_getElem? (i := 412) (by decide +kernel)) rfl
set_option maxRecDepth 100000 in
theorem mc_X5_told : Cond.code yX5_told cX5_told 4 (some .int) ∈ TB := TB_mem (List.mem_of_getElem? (i := 413) (rfl)) rfl
theorem mlX5_252 : Cond.methodLink RX5 252 yX4_dues ∈ TB := TB_mem (List.mem_of_getElem? (i := 414) (by decide +kernel)) rfl
theorem mi_X4_dues : Cond.instanceMethod yX4_dues ∈ TB := TB_mem (List.mem_of_getElem? (i := 415) (by decide +kernel)) rfl
theorem ms_X4_dues : Cond.selects RX4 yX4_dues yX4_dues ∈ TB := TB_mem (List.mem_of_getElem? (i := 416) (by decide +kernel)) rfl
set_option maxRecDepth 100000 in
theorem mc_X4_dues : Cond.code yX4_dues cX4_dues 4 (some .int) ∈ TB := TB_mem (List.mem_of_getElem? (i := 417) (rfl)) rfl
theorem mlX4_66 : Cond.methodLink RX4 66 Lib.Math.min.name ∈ TB := TB_mem (List.mem_of_getElem? (i := 418) (by decide +kernel)) rfl
theorem mt_math_min : Cond.static Lib.Math.min.name ∈ TB := TB_mem (List.mem_of_getElem? (i := 419) (by decide +kernel)) rfl
theorem mc_math_min : Cond.code Lib.Math.min.name Lib.Math.min.code 2 (some .int) ∈ TB := TB_mem (List.mem_of_getElem? (i := 420) (by decide +kernel)) rfl
theorem mlL_57 : Cond.methodLink RL 57 yX5_waited ∈ TB := TB_mem (List.mem_of_getElem? (i := 421) (by decide +kernel)) rfl
theorem mi_X5_waited : Cond.instanceMethod yX5_waited ∈ TB := TB_mem (List.mem_of_getElem? (i := 422) (by decide +kernel)) rfl
theorem ms_X5_waited : Cond.selects RX5 yX5_waited yX5_waited ∈ TB := TB_mem (List.mem_of_getElem? (i := 423) (by decide +kernel)) rfl
set_option maxRecDepth 100000 in
theorem mc_X5_waited : Cond.code yX5_waited cX5_waited 4 (some .int) ∈ TB := TB_mem (List.mem_of_getElem? (i := 424) (rfl)) rfl
theorem mlX5_256 : Cond.methodLink RX5 256 yX4_waitedInAll ∈ TB := TB_mem (List.mem_of_getElem? (i := 425) (by decide +kernel)) rfl
theorem mi_X4_waitedInAll : Cond.instanceMethod yX4_waitedInAll ∈ TB := TB_mem (List.mem_of_getElem? (i := 426) (by decide +kernel)) rfl
theorem ms_X4_waitedInAll : Cond.selects RX4 yX4_waitedInAll yX4_waitedInAll ∈ TB := TB_mem (List.mem_of_getElem? (i := 427) (by decide +kernel)) rfl
set_option maxRecDepth 100000 in
theorem mc_X4_waitedInAll : Cond.code yX4_waitedInAll cX4_waitedInAll 3 (some .int) ∈ TB := TB_mem (List.mem_of_getElem? (i := 428) (rfl)) rfl
theorem mlL_61 : Cond.methodLink RL 61 yX5_line ∈ TB := TB_mem (List.mem_of_getElem? (i := 429) (by decide +kernel)) rfl
theorem mi_X5_line : Cond.instanceMethod yX5_line ∈ TB := TB_mem (List.mem_of_getElem? (i := 430) (by decide +kernel)) rfl
theorem ms_X5_line : Cond.selects RX5 yX5_line yX5_line ∈ TB := TB_mem (List.mem_of_getElem? (i := 431) (by decide +kernel)) rfl
set_option maxRecDepth 100000 in
theorem mc_X5_line : Cond.code yX5_line cX5_line 3 (some .int) ∈ TB := TB_mem (List.mem_of_getElem? (i := 432) (rfl)) rfl
theorem mlX5_262 : Cond.methodLink RX5 262 yX2_numberAt ∈ TB := TB_mem (List.mem_of_getElem? (i := 433) (by decide +kernel)) rfl
theorem mi_X2_numberAt : Cond.instanceMethod yX2_numberAt ∈ TB := TB_mem (List.mem_of_getElem? (i := 434) (by decide +kernel)) rfl
theorem ms_X2_numberAt : Cond.selects RX2 yX2_numberAt yX2_numberAt ∈ TB := TB_mem (List.mem_of_getElem? (i := 435) (by decide +kernel)) rfl
set_option maxRecDepth 100000 in
theorem mc_X2_numberAt : Cond.code yX2_numberAt cX2_numberAt 3 (some .int) ∈ TB := TB_mem (List.mem_of_getElem? (i := 436) (rfl)) rfl
theorem mlL_65 : Cond.methodLink RL 65 yX5_in ∈ TB := TB_mem (List.mem_of_getElem? (i := 437) (by decide +kernel)) rfl
theorem mi_X5_in : Cond.instanceMethod yX5_in ∈ TB := TB_mem (List.mem_of_getElem? (i := 438) (by decide +kernel)) rfl
theorem ms_X5_in : Cond.selects RX5 yX5_in yX5_in ∈ TB := TB_mem (List.mem_of_getElem? (i := 439) (by decide +kernel)) rfl
set_option maxRecDepth 100000 in
theorem mc_X5_in : Cond.code yX5_in cX5_in 5 (some .int) ∈ TB := TB_mem (List.mem_of_getElem? (i := 440) (rfl)) rfl
theorem mlL_70 : Cond.methodLink RL 70 yX5_count ∈ TB := TB_mem (List.mem_of_getElem? (i := 441) (by decide +kernel)) rfl
theorem mi_X5_count : Cond.instanceMethod yX5_count ∈ TB := TB_mem (List.mem_of_getElem? (i := 442) (by decide +kernel)) rfl
theorem ms_X5_count : Cond.selects RX5 yX5_count yX5_count ∈ TB := TB_mem (List.mem_of_getElem? (i := 443) (by decide +kernel)) rfl
set_option maxRecDepth 100000 in
theorem mc_X5_count : Cond.code yX5_count cX5_count 2 (some .int) ∈ TB := TB_mem (List.mem_of_getElem? (i := 444) (rfl)) rfl
theorem mlX5_265 : Cond.methodLink RX5 265 yX5_shipsThat ∈ TB := TB_mem (List.mem_of_getElem? (i := 445) (by decide +kernel)) rfl
theorem mi_X5_shipsThat : Cond.instanceMethod yX5_shipsThat ∈ TB := TB_mem (List.mem_of_getElem? (i := 447) (by decide +kernel)) rfl
set_option maxRecDepth 100000 in
theorem mc_X5_shipsThat : Cond.code yX5_shipsThat cX5_shipsThat 5 (some .int) ∈ TB := TB_mem (List.mem_of_getElem? (i := 448) (rfl)) rfl
theorem mlX5_271 : Cond.methodLink RX5 271 yX4_counts ∈ TB := TB_mem (List.mem_of_getElem? (i := 449) (by decide +kernel)) rfl
theorem mi_X4_counts : Cond.instanceMethod yX4_counts ∈ TB := TB_mem (List.mem_of_getElem? (i := 450) (by decide +kernel)) rfl
theorem ms_X4_counts : Cond.selects RX4 yX4_counts yX4_counts ∈ TB := TB_mem (List.mem_of_getElem? (i := 451) (by decide +kernel)) rfl
set_option maxRecDepth 100000 in
theorem mc_X4_counts : Cond.code yX4_counts cX4_counts 2 (some .boolean) ∈ TB := TB_mem (List.mem_of_getElem? (i := 452) (rfl)) rfl
theorem mlX4_62 : Cond.methodLink RX4 62 yX4_isInSection ∈ TB := TB_mem (List.mem_of_getElem? (i := 453) (by decide +kernel)) rfl
theorem mlX5_268 : Cond.methodLink RX5 268 yX5_mostWaysInOneSection ∈ TB := TB_mem (List.mem_of_getElem? (i := 454) (by decide +kernel)) rfl
theorem mi_X5_mostWaysInOneSection : Cond.instanceMethod yX5_mostWaysInOneSection ∈ TB := TB_mem (List.mem_of_getElem? (i := 456) (by decide +kernel)) rfl
set_option maxRecDepth 100000 in
theorem mc_X5_mostWaysInOneSection : Cond.code yX5_mostWaysInOneSection cX5_mostWaysInOneSection 4 (some .int) ∈ TB := TB_mem (List.mem_of_getElem? (i := 457) (rfl)) rfl
theorem mlX5_274 : Cond.methodLink RX5 274 yX3_waysInside ∈ TB := TB_mem (List.mem_of_getElem? (i := 458) (by decide +kernel)) rfl
theorem mi_X3_waysInside : Cond.instanceMethod yX3_waysInside ∈ TB := TB_mem (List.mem_of_getElem? (i := 459) (by decide +kernel)) rfl
theorem ms_X3_waysInside : Cond.selects RX3 yX3_waysInside yX3_waysInside ∈ TB := TB_mem (List.mem_of_getElem? (i := 460) (by decide +kernel)) rfl
set_option maxRecDepth 100000 in
theorem mc_X3_waysInside : Cond.code yX3_waysInside cX3_waysInside 1 (some .int) ∈ TB := TB_mem (List.mem_of_getElem? (i := 461) (rfl)) rfl
theorem mlX5_277 : Cond.methodLink RX5 277 Lib.Math.max.name ∈ TB := TB_mem (List.mem_of_getElem? (i := 462) (by decide +kernel)) rfl
theorem clL_10 : Cond.classLink RL 10 RX6 ∈ TB := TB_mem (List.mem_of_getElem? (i := 463) (by decide +kernel)) rfl
theorem ci_X6 : Cond.instantiable RX6 36 ∈ TB := TB_mem (List.mem_of_getElem? (i := 464) (by decide +kernel)) rfl
theorem mlL_12 : Cond.methodLink RL 12 yX6_init ∈ TB := TB_mem (List.mem_of_getElem? (i := 465) (by decide +kernel)) rfl
theorem mi_X6_init : Cond.instanceMethod yX6_init ∈ TB := TB_mem (List.mem_of_getElem? (i := 466) (by decide +kernel)) rfl
set_option maxRecDepth 100000 in
theorem mc_X6_init : Cond.code yX6_init cX6_init 2 none ∈ TB := TB_mem (List.mem_of_getElem? (i := 467) (rfl)) rfl
theorem mlX6_1 : Cond.methodLink RX6 1 Lib.objectInit ∈ TB := TB_mem (List.mem_of_getElem? (i := 468) (by decide +kernel)) rfl
theorem flX6_112 : FL RX6 112 6 0 := TB_mem (List.mem_of_getElem? (i := 469) (by decide +kernel)) rfl
theorem flX6_7 : FL RX6 7 6 1 := TB_mem (List.mem_of_getElem? (i := 470) (by decide +kernel)) rfl
theorem flX6_115 : FL RX6 115 6 2 := TB_mem (List.mem_of_getElem? (i := 471) (by decide +kernel)) rfl
theorem flX6_13 : FL RX6 13 6 3 := TB_mem (List.mem_of_getElem? (i := 472) (by decide +kernel)) rfl
theorem flX6_17 : FL RX6 17 6 4 := TB_mem (List.mem_of_getElem? (i := 473) (by decide +kernel)) rfl
theorem flX6_20 : FL RX6 20 6 5 := TB_mem (List.mem_of_getElem? (i := 474) (by decide +kernel)) rfl
theorem flX6_24 : FL RX6 24 6 6 := TB_mem (List.mem_of_getElem? (i := 475) (by decide +kernel)) rfl
theorem flX6_27 : FL RX6 27 6 7 := TB_mem (List.mem_of_getElem? (i := 476) (by decide +kernel)) rfl
theorem flX6_119 : FL RX6 119 6 8 := TB_mem (List.mem_of_getElem? (i := 477) (by decide +kernel)) rfl
theorem flX6_30 : FL RX6 30 6 9 := TB_mem (List.mem_of_getElem? (i := 478) (by decide +kernel)) rfl
theorem flX6_33 : FL RX6 33 6 10 := TB_mem (List.mem_of_getElem? (i := 479) (by decide +kernel)) rfl
theorem flX6_36 : FL RX6 36 6 11 := TB_mem (List.mem_of_getElem? (i := 480) (by decide +kernel)) rfl
theorem flX6_39 : FL RX6 39 6 12 := TB_mem (List.mem_of_getElem? (i := 481) (by decide +kernel)) rfl
theorem flX6_42 : FL RX6 42 6 13 := TB_mem (List.mem_of_getElem? (i := 482) (by decide +kernel)) rfl
theorem flX6_45 : FL RX6 45 6 14 := TB_mem (List.mem_of_getElem? (i := 483) (by decide +kernel)) rfl
theorem flX6_48 : FL RX6 48 6 15 := TB_mem (List.mem_of_getElem? (i := 484) (by decide +kernel)) rfl
theorem flX6_51 : FL RX6 51 6 16 := TB_mem (List.mem_of_getElem? (i := 485) (by decide +kernel)) rfl
theorem flX6_54 : FL RX6 54 6 17 := TB_mem (List.mem_of_getElem? (i := 486) (by decide +kernel)) rfl
theorem flX6_57 : FL RX6 57 6 18 := TB_mem (List.mem_of_getElem? (i := 487) (by decide +kernel)) rfl
theorem flX6_60 : FL RX6 60 6 19 := TB_mem (List.mem_of_getElem? (i := 488) (by decide +kernel)) rfl
theorem flX6_63 : FL RX6 63 6 20 := TB_mem (List.mem_of_getElem? (i := 489) (by decide +kernel)) rfl
theorem flX6_66 : FL RX6 66 6 21 := TB_mem (List.mem_of_getElem? (i := 490) (by decide +kernel)) rfl
theorem flX6_69 : FL RX6 69 6 22 := TB_mem (List.mem_of_getElem? (i := 491) (by decide +kernel)) rfl
theorem flX6_72 : FL RX6 72 6 23 := TB_mem (List.mem_of_getElem? (i := 492) (by decide +kernel)) rfl
theorem flX6_122 : FL RX6 122 6 24 := TB_mem (List.mem_of_getElem? (i := 493) (by decide +kernel)) rfl
theorem flX6_75 : FL RX6 75 6 25 := TB_mem (List.mem_of_getElem? (i := 494) (by decide +kernel)) rfl
theorem flX6_78 : FL RX6 78 6 26 := TB_mem (List.mem_of_getElem? (i := 495) (by decide +kernel)) rfl
theorem flX6_81 : FL RX6 81 6 27 := TB_mem (List.mem_of_getElem? (i := 496) (by decide +kernel)) rfl
theorem flX6_84 : FL RX6 84 6 28 := TB_mem (List.mem_of_getElem? (i := 497) (by decide +kernel)) rfl
theorem flX6_87 : FL RX6 87 6 29 := TB_mem (List.mem_of_getElem? (i := 498) (by decide +kernel)) rfl
theorem flX6_90 : FL RX6 90 6 30 := TB_mem (List.mem_of_getElem? (i := 499) (by decide +kernel)) rfl
theorem flX6_93 : FL RX6 93 6 31 := TB_mem (List.mem_of_getElem? (i := 500) (by decide +kernel)) rfl
theorem flX6_96 : FL RX6 96 6 32 := TB_mem (List.mem_of_getElem? (i := 501) (by decide +kernel)) rfl
theorem flX6_99 : FL RX6 99 6 33 := TB_mem (List.mem_of_getElem? (i := 502) (by decide +kernel)) rfl
theorem flX6_102 : FL RX6 102 6 34 := TB_mem (List.mem_of_getElem? (i := 503) (by decide +kernel)) rfl
theorem flX6_105 : FL RX6 105 6 35 := TB_mem (List.mem_of_getElem? (i := 504) (by decide +kernel)) rfl
theorem ac_boolean : Cond.arrayClass .boolean ∈ TB := TB_mem (List.mem_of_getElem? (i := 578) (by decide +kernel)) rfl
theorem mlL_17 : Cond.methodLink RL 17 yX6_section ∈ TB := TB_mem (List.mem_of_getElem? (i := 579) (by decide +kernel)) rfl
theorem mi_X6_section : Cond.instanceMethod yX6_section ∈ TB := TB_mem (List.mem_of_getElem? (i := 580) (by decide +kernel)) rfl
theorem ms_X6_section : Cond.selects RX6 yX6_section yX6_section ∈ TB := TB_mem (List.mem_of_getElem? (i := 581) (by decide +kernel)) rfl
set_option maxRecDepth 100000 in
theorem mc_X6_section : Cond.code yX6_section cX6_section 5 (some .int) ∈ TB := TB_mem (List.mem_of_getElem? (i := 582) (rfl)) rfl
theorem mlX6_108 : Cond.methodLink RX6 108 yX6_isIn ∈ TB := TB_mem (List.mem_of_getElem? (i := 583) (by decide +kernel)) rfl
theorem mt_X6_isIn : Cond.static yX6_isIn ∈ TB := TB_mem (List.mem_of_getElem? (i := 584) (by decide +kernel)) rfl
set_option maxRecDepth 100000 in
theorem mc_X6_isIn : Cond.code yX6_isIn cX6_isIn 3 (some .boolean) ∈ TB := TB_mem (List.mem_of_getElem? (i := 585) (rfl)) rfl
theorem mlL_22 : Cond.methodLink RL 22 yX6_tide ∈ TB := TB_mem (List.mem_of_getElem? (i := 586) (by decide +kernel)) rfl
theorem mi_X6_tide : Cond.instanceMethod yX6_tide ∈ TB := TB_mem (List.mem_of_getElem? (i := 587) (by decide +kernel)) rfl
theorem ms_X6_tide : Cond.selects RX6 yX6_tide yX6_tide ∈ TB := TB_mem (List.mem_of_getElem? (i := 588) (by decide +kernel)) rfl
set_option maxRecDepth 100000 in
theorem mc_X6_tide : Cond.code yX6_tide cX6_tide 4 (some .int) ∈ TB := TB_mem (List.mem_of_getElem? (i := 589) (rfl)) rfl
theorem mlL_26 : Cond.methodLink RL 26 yX6_wind ∈ TB := TB_mem (List.mem_of_getElem? (i := 590) (by decide +kernel)) rfl
theorem mi_X6_wind : Cond.instanceMethod yX6_wind ∈ TB := TB_mem (List.mem_of_getElem? (i := 591) (by decide +kernel)) rfl
theorem ms_X6_wind : Cond.selects RX6 yX6_wind yX6_wind ∈ TB := TB_mem (List.mem_of_getElem? (i := 592) (by decide +kernel)) rfl
set_option maxRecDepth 100000 in
theorem mc_X6_wind : Cond.code yX6_wind cX6_wind 4 (some .int) ∈ TB := TB_mem (List.mem_of_getElem? (i := 593) (rfl)) rfl
theorem mlL_30 : Cond.methodLink RL 30 yX6_rule ∈ TB := TB_mem (List.mem_of_getElem? (i := 594) (by decide +kernel)) rfl
theorem mi_X6_rule : Cond.instanceMethod yX6_rule ∈ TB := TB_mem (List.mem_of_getElem? (i := 595) (by decide +kernel)) rfl
theorem ms_X6_rule : Cond.selects RX6 yX6_rule yX6_rule ∈ TB := TB_mem (List.mem_of_getElem? (i := 596) (by decide +kernel)) rfl
set_option maxRecDepth 100000 in
theorem mc_X6_rule : Cond.code yX6_rule cX6_rule 4 (some .int) ∈ TB := TB_mem (List.mem_of_getElem? (i := 597) (rfl)) rfl
theorem mlL_35 : Cond.methodLink RL 35 yX6_ship ∈ TB := TB_mem (List.mem_of_getElem? (i := 598) (by decide +kernel)) rfl
theorem mi_X6_ship : Cond.instanceMethod yX6_ship ∈ TB := TB_mem (List.mem_of_getElem? (i := 599) (by decide +kernel)) rfl
theorem ms_X6_ship : Cond.selects RX6 yX6_ship yX6_ship ∈ TB := TB_mem (List.mem_of_getElem? (i := 600) (by decide +kernel)) rfl
set_option maxRecDepth 100000 in
theorem mc_X6_ship : Cond.code yX6_ship cX6_ship 7 (some .int) ∈ TB := TB_mem (List.mem_of_getElem? (i := 601) (rfl)) rfl
theorem ctX6_118 : Cond.constant RX6 118 (200000) ∈ TB := TB_mem (List.mem_of_getElem? (i := 602) (by decide +kernel)) rfl
theorem mlL_39 : Cond.methodLink RL 39 yX6_convoy ∈ TB := TB_mem (List.mem_of_getElem? (i := 603) (by decide +kernel)) rfl
theorem mi_X6_convoy : Cond.instanceMethod yX6_convoy ∈ TB := TB_mem (List.mem_of_getElem? (i := 604) (by decide +kernel)) rfl
theorem ms_X6_convoy : Cond.selects RX6 yX6_convoy yX6_convoy ∈ TB := TB_mem (List.mem_of_getElem? (i := 605) (by decide +kernel)) rfl
set_option maxRecDepth 100000 in
theorem mc_X6_convoy : Cond.code yX6_convoy cX6_convoy 3 (some .int) ∈ TB := TB_mem (List.mem_of_getElem? (i := 606) (rfl)) rfl
theorem mlL_43 : Cond.methodLink RL 43 yX6_book ∈ TB := TB_mem (List.mem_of_getElem? (i := 607) (by decide +kernel)) rfl
theorem mi_X6_book : Cond.instanceMethod yX6_book ∈ TB := TB_mem (List.mem_of_getElem? (i := 608) (by decide +kernel)) rfl
theorem ms_X6_book : Cond.selects RX6 yX6_book yX6_book ∈ TB := TB_mem (List.mem_of_getElem? (i := 609) (by decide +kernel)) rfl
set_option maxRecDepth 100000 in
theorem mc_X6_book : Cond.code yX6_book cX6_book 3 (some .int) ∈ TB := TB_mem (List.mem_of_getElem? (i := 610) (rfl)) rfl
theorem mlL_47 : Cond.methodLink RL 47 yX6_ground ∈ TB := TB_mem (List.mem_of_getElem? (i := 611) (by decide +kernel)) rfl
theorem mi_X6_ground : Cond.instanceMethod yX6_ground ∈ TB := TB_mem (List.mem_of_getElem? (i := 612) (by decide +kernel)) rfl
theorem ms_X6_ground : Cond.selects RX6 yX6_ground yX6_ground ∈ TB := TB_mem (List.mem_of_getElem? (i := 613) (by decide +kernel)) rfl
set_option maxRecDepth 100000 in
theorem mc_X6_ground : Cond.code yX6_ground cX6_ground 3 (some .int) ∈ TB := TB_mem (List.mem_of_getElem? (i := 614) (rfl)) rfl
theorem mlL_52 : Cond.methodLink RL 52 yX6_minutes ∈ TB := TB_mem (List.mem_of_getElem? (i := 615) (by decide +kernel)) rfl
theorem mi_X6_minutes : Cond.instanceMethod yX6_minutes ∈ TB := TB_mem (List.mem_of_getElem? (i := 616) (by decide +kernel)) rfl
theorem ms_X6_minutes : Cond.selects RX6 yX6_minutes yX6_minutes ∈ TB := TB_mem (List.mem_of_getElem? (i := 617) (by decide +kernel)) rfl
set_option maxRecDepth 100000 in
theorem mc_X6_minutes : Cond.code yX6_minutes cX6_minutes 4 (some .int) ∈ TB := TB_mem (List.mem_of_getElem? (i := 618) (rfl)) rfl
theorem mlX6_155 : Cond.methodLink RX6 155 yX6_starts ∈ TB := TB_mem (List.mem_of_getElem? (i := 619) (by decide +kernel)) rfl
theorem mi_X6_starts : Cond.instanceMethod yX6_starts ∈ TB := TB_mem (List.mem_of_getElem? (i := 621) (by decide +kernel)) rfl
set_option maxRecDepth 100000 in
theorem mc_X6_starts : Cond.code yX6_starts cX6_starts 3 none ∈ TB := TB_mem (List.mem_of_getElem? (i := 622) (rfl)) rfl
theorem mlX6_125 : Cond.methodLink RX6 125 yX6_joins ∈ TB := TB_mem (List.mem_of_getElem? (i := 623) (by decide +kernel)) rfl
theorem mi_X6_joins : Cond.instanceMethod yX6_joins ∈ TB := TB_mem (List.mem_of_getElem? (i := 625) (by decide +kernel)) rfl
set_option maxRecDepth 100000 in
theorem mc_X6_joins : Cond.code yX6_joins cX6_joins 3 none ∈ TB := TB_mem (List.mem_of_getElem? (i := 626) (rfl)) rfl
theorem mlX6_158 : Cond.methodLink RX6 158 yX6_lates ∈ TB := TB_mem (List.mem_of_getElem? (i := 627) (by decide +kernel)) rfl
theorem mi_X6_lates : Cond.instanceMethod yX6_lates ∈ TB := TB_mem (List.mem_of_getElem? (i := 629) (by decide +kernel)) rfl
set_option maxRecDepth 100000 in
theorem mc_X6_lates : Cond.code yX6_lates cX6_lates 3 none ∈ TB := TB_mem (List.mem_of_getElem? (i := 630) (rfl)) rfl
theorem mlX6_129 : Cond.methodLink RX6 129 yX6_nextConvoy ∈ TB := TB_mem (List.mem_of_getElem? (i := 631) (by decide +kernel)) rfl
theorem mi_X6_nextConvoy : Cond.instanceMethod yX6_nextConvoy ∈ TB := TB_mem (List.mem_of_getElem? (i := 633) (by decide +kernel)) rfl
set_option maxRecDepth 100000 in
theorem mc_X6_nextConvoy : Cond.code yX6_nextConvoy cX6_nextConvoy 5 (some .int) ∈ TB := TB_mem (List.mem_of_getElem? (i := 634) (rfl)) rfl
theorem mlX6_161 : Cond.methodLink RX6 161 yX6_moves ∈ TB := TB_mem (List.mem_of_getElem? (i := 635) (by decide +kernel)) rfl
theorem mi_X6_moves : Cond.instanceMethod yX6_moves ∈ TB := TB_mem (List.mem_of_getElem? (i := 637) (by decide +kernel)) rfl
set_option maxRecDepth 100000 in
theorem mc_X6_moves : Cond.code yX6_moves cX6_moves 8 none ∈ TB := TB_mem (List.mem_of_getElem? (i := 638) (rfl)) rfl
theorem mlX6_141 : Cond.methodLink RX6 141 yX6_goes ∈ TB := TB_mem (List.mem_of_getElem? (i := 639) (by decide +kernel)) rfl
theorem mi_X6_goes : Cond.instanceMethod yX6_goes ∈ TB := TB_mem (List.mem_of_getElem? (i := 641) (by decide +kernel)) rfl
set_option maxRecDepth 100000 in
theorem mc_X6_goes : Cond.code yX6_goes cX6_goes 6 (some .boolean) ∈ TB := TB_mem (List.mem_of_getElem? (i := 642) (rfl)) rfl
theorem mlX6_144 : Cond.methodLink RX6 144 yX6_leaves ∈ TB := TB_mem (List.mem_of_getElem? (i := 643) (by decide +kernel)) rfl
theorem mi_X6_leaves : Cond.instanceMethod yX6_leaves ∈ TB := TB_mem (List.mem_of_getElem? (i := 645) (by decide +kernel)) rfl
set_option maxRecDepth 100000 in
theorem mc_X6_leaves : Cond.code yX6_leaves cX6_leaves 5 none ∈ TB := TB_mem (List.mem_of_getElem? (i := 646) (rfl)) rfl
theorem mlX6_148 : Cond.methodLink RX6 148 yX6_cause ∈ TB := TB_mem (List.mem_of_getElem? (i := 647) (by decide +kernel)) rfl
theorem mi_X6_cause : Cond.instanceMethod yX6_cause ∈ TB := TB_mem (List.mem_of_getElem? (i := 649) (by decide +kernel)) rfl
set_option maxRecDepth 100000 in
theorem mc_X6_cause : Cond.code yX6_cause cX6_cause 6 (some .int) ∈ TB := TB_mem (List.mem_of_getElem? (i := 650) (rfl)) rfl
theorem mlX6_133 : Cond.methodLink RX6 133 yX6_isAground ∈ TB := TB_mem (List.mem_of_getElem? (i := 651) (by decide +kernel)) rfl
theorem mi_X6_isAground : Cond.instanceMethod yX6_isAground ∈ TB := TB_mem (List.mem_of_getElem? (i := 653) (by decide +kernel)) rfl
set_option maxRecDepth 100000 in
theorem mc_X6_isAground : Cond.code yX6_isAground cX6_isAground 4 (some .boolean) ∈ TB := TB_mem (List.mem_of_getElem? (i := 654) (rfl)) rfl
theorem mlX6_137 : Cond.methodLink RX6 137 yX6_isOncoming ∈ TB := TB_mem (List.mem_of_getElem? (i := 655) (by decide +kernel)) rfl
theorem mi_X6_isOncoming : Cond.instanceMethod yX6_isOncoming ∈ TB := TB_mem (List.mem_of_getElem? (i := 657) (by decide +kernel)) rfl
set_option maxRecDepth 100000 in
theorem mc_X6_isOncoming : Cond.code yX6_isOncoming cX6_isOncoming 6 (some .boolean) ∈ TB := TB_mem (List.mem_of_getElem? (i := 658) (rfl)) rfl
theorem mlX6_152 : Cond.methodLink RX6 152 yX6_enters ∈ TB := TB_mem (List.mem_of_getElem? (i := 659) (by decide +kernel)) rfl
theorem mi_X6_enters : Cond.instanceMethod yX6_enters ∈ TB := TB_mem (List.mem_of_getElem? (i := 661) (by decide +kernel)) rfl
set_option maxRecDepth 100000 in
theorem mc_X6_enters : Cond.code yX6_enters cX6_enters 4 none ∈ TB := TB_mem (List.mem_of_getElem? (i := 662) (rfl)) rfl
theorem mlX6_164 : Cond.methodLink RX6 164 yX6_comesIn ∈ TB := TB_mem (List.mem_of_getElem? (i := 663) (by decide +kernel)) rfl
theorem mi_X6_comesIn : Cond.instanceMethod yX6_comesIn ∈ TB := TB_mem (List.mem_of_getElem? (i := 665) (by decide +kernel)) rfl
set_option maxRecDepth 100000 in
theorem mc_X6_comesIn : Cond.code yX6_comesIn cX6_comesIn 6 none ∈ TB := TB_mem (List.mem_of_getElem? (i := 666) (rfl)) rfl
theorem mlL_56 : Cond.methodLink RL 56 yX6_told ∈ TB := TB_mem (List.mem_of_getElem? (i := 667) (by decide +kernel)) rfl
theorem mi_X6_told : Cond.instanceMethod yX6_told ∈ TB := TB_mem (List.mem_of_getElem? (i := 668) (by decide +kernel)) rfl
theorem ms_X6_told : Cond.selects RX6 yX6_told yX6_told ∈ TB := TB_mem (List.mem_of_getElem? (i := 669) (by decide +kernel)) rfl
set_option maxRecDepth 100000 in
theorem mc_X6_told : Cond.code yX6_told cX6_told 3 (some .int) ∈ TB := TB_mem (List.mem_of_getElem? (i := 670) (rfl)) rfl
theorem mlX6_168 : Cond.methodLink RX6 168 yX6_dues ∈ TB := TB_mem (List.mem_of_getElem? (i := 671) (by decide +kernel)) rfl
theorem mi_X6_dues : Cond.instanceMethod yX6_dues ∈ TB := TB_mem (List.mem_of_getElem? (i := 673) (by decide +kernel)) rfl
set_option maxRecDepth 100000 in
theorem mc_X6_dues : Cond.code yX6_dues cX6_dues 4 (some .int) ∈ TB := TB_mem (List.mem_of_getElem? (i := 674) (rfl)) rfl
theorem ctX6_167 : Cond.constant RX6 167 (45000) ∈ TB := TB_mem (List.mem_of_getElem? (i := 675) (by decide +kernel)) rfl
theorem mlL_60 : Cond.methodLink RL 60 yX6_waited ∈ TB := TB_mem (List.mem_of_getElem? (i := 676) (by decide +kernel)) rfl
theorem mi_X6_waited : Cond.instanceMethod yX6_waited ∈ TB := TB_mem (List.mem_of_getElem? (i := 677) (by decide +kernel)) rfl
theorem ms_X6_waited : Cond.selects RX6 yX6_waited yX6_waited ∈ TB := TB_mem (List.mem_of_getElem? (i := 678) (by decide +kernel)) rfl
set_option maxRecDepth 100000 in
theorem mc_X6_waited : Cond.code yX6_waited cX6_waited 5 (some .int) ∈ TB := TB_mem (List.mem_of_getElem? (i := 679) (rfl)) rfl
theorem mlL_64 : Cond.methodLink RL 64 yX6_line ∈ TB := TB_mem (List.mem_of_getElem? (i := 680) (by decide +kernel)) rfl
theorem mi_X6_line : Cond.instanceMethod yX6_line ∈ TB := TB_mem (List.mem_of_getElem? (i := 681) (by decide +kernel)) rfl
theorem ms_X6_line : Cond.selects RX6 yX6_line yX6_line ∈ TB := TB_mem (List.mem_of_getElem? (i := 682) (by decide +kernel)) rfl
set_option maxRecDepth 100000 in
theorem mc_X6_line : Cond.code yX6_line cX6_line 3 (some .int) ∈ TB := TB_mem (List.mem_of_getElem? (i := 683) (rfl)) rfl
theorem mlL_69 : Cond.methodLink RL 69 yX6_in ∈ TB := TB_mem (List.mem_of_getElem? (i := 684) (by decide +kernel)) rfl
theorem mi_X6_in : Cond.instanceMethod yX6_in ∈ TB := TB_mem (List.mem_of_getElem? (i := 685) (by decide +kernel)) rfl
theorem ms_X6_in : Cond.selects RX6 yX6_in yX6_in ∈ TB := TB_mem (List.mem_of_getElem? (i := 686) (by decide +kernel)) rfl
set_option maxRecDepth 100000 in
theorem mc_X6_in : Cond.code yX6_in cX6_in 4 (some .int) ∈ TB := TB_mem (List.mem_of_getElem? (i := 687) (rfl)) rfl
theorem mlL_73 : Cond.methodLink RL 73 yX6_count ∈ TB := TB_mem (List.mem_of_getElem? (i := 688) (by decide +kernel)) rfl
theorem mi_X6_count : Cond.instanceMethod yX6_count ∈ TB := TB_mem (List.mem_of_getElem? (i := 689) (by decide +kernel)) rfl
theorem ms_X6_count : Cond.selects RX6 yX6_count yX6_count ∈ TB := TB_mem (List.mem_of_getElem? (i := 690) (by decide +kernel)) rfl
set_option maxRecDepth 100000 in
theorem mc_X6_count : Cond.code yX6_count cX6_count 7 (some .int) ∈ TB := TB_mem (List.mem_of_getElem? (i := 691) (rfl)) rfl
theorem mlX6_171 : Cond.methodLink RX6 171 yX6_several ∈ TB := TB_mem (List.mem_of_getElem? (i := 692) (by decide +kernel)) rfl
theorem mi_X6_several : Cond.instanceMethod yX6_several ∈ TB := TB_mem (List.mem_of_getElem? (i := 694) (by decide +kernel)) rfl
set_option maxRecDepth 100000 in
theorem mc_X6_several : Cond.code yX6_several cX6_several 4 (some .int) ∈ TB := TB_mem (List.mem_of_getElem? (i := 695) (rfl)) rfl
theorem uw_X0 : ∀ w ∈ u_ws RX0 TX0 4, w ∈ TB := by
  show ∀ w ∈ [u_lay RX0 TX0 0, u_lay RX0 TX0 1, u_lay RX0 TX0 2, u_lay RX0 TX0 3], w ∈ TB
  exact List.forall_mem_cons.mpr ⟨TB_mem (List.mem_of_getElem? (i := 287) (by decide +kernel)) rfl, List.forall_mem_cons.mpr ⟨TB_mem (List.mem_of_getElem? (i := 289) (by decide +kernel)) rfl, List.forall_mem_cons.mpr ⟨TB_mem (List.mem_of_getElem? (i := 291) (by decide +kernel)) rfl, List.forall_mem_cons.mpr ⟨TB_mem (List.mem_of_getElem? (i := 293) (by decide +kernel)) rfl, fun _ h => absurd h List.not_mem_nil⟩⟩⟩⟩
theorem uw_X1 : ∀ w ∈ u_ws RX1 TX1 2, w ∈ TB := by
  show ∀ w ∈ [u_lay RX1 TX1 0, u_lay RX1 TX1 1], w ∈ TB
  exact List.forall_mem_cons.mpr ⟨TB_mem (List.mem_of_getElem? (i := 95) (by decide +kernel)) rfl, List.forall_mem_cons.mpr ⟨TB_mem (List.mem_of_getElem? (i := 97) (by decide +kernel)) rfl, fun _ h => absurd h List.not_mem_nil⟩⟩
theorem uw_X2 : ∀ w ∈ u_ws RX2 TX2 2, w ∈ TB := by
  show ∀ w ∈ [u_lay RX2 TX2 0, u_lay RX2 TX2 1], w ∈ TB
  exact List.forall_mem_cons.mpr ⟨TB_mem (List.mem_of_getElem? (i := 69) (by decide +kernel)) rfl, List.forall_mem_cons.mpr ⟨TB_mem (List.mem_of_getElem? (i := 71) (by decide +kernel)) rfl, fun _ h => absurd h List.not_mem_nil⟩⟩
theorem uw_X3 : ∀ w ∈ u_ws RX3 TX3 6, w ∈ TB := by
  show ∀ w ∈ [u_lay RX3 TX3 0, u_lay RX3 TX3 1, u_lay RX3 TX3 2, u_lay RX3 TX3 3, u_lay RX3 TX3 4, u_lay RX3 TX3 5], w ∈ TB
  exact List.forall_mem_cons.mpr ⟨TB_mem (List.mem_of_getElem? (i := 112) (by decide +kernel)) rfl, List.forall_mem_cons.mpr ⟨TB_mem (List.mem_of_getElem? (i := 114) (by decide +kernel)) rfl, List.forall_mem_cons.mpr ⟨TB_mem (List.mem_of_getElem? (i := 116) (by decide +kernel)) rfl, List.forall_mem_cons.mpr ⟨TB_mem (List.mem_of_getElem? (i := 118) (by decide +kernel)) rfl, List.forall_mem_cons.mpr ⟨TB_mem (List.mem_of_getElem? (i := 120) (by decide +kernel)) rfl, List.forall_mem_cons.mpr ⟨TB_mem (List.mem_of_getElem? (i := 122) (by decide +kernel)) rfl, fun _ h => absurd h List.not_mem_nil⟩⟩⟩⟩⟩⟩
theorem uw_X4 : ∀ w ∈ u_ws RX4 TX4 16, w ∈ TB := by
  show ∀ w ∈ [u_lay RX4 TX4 0, u_lay RX4 TX4 1, u_lay RX4 TX4 2, u_lay RX4 TX4 3, u_lay RX4 TX4 4, u_lay RX4 TX4 5, u_lay RX4 TX4 6, u_lay RX4 TX4 7, u_lay RX4 TX4 8, u_lay RX4 TX4 9, u_lay RX4 TX4 10, u_lay RX4 TX4 11, u_lay RX4 TX4 12, u_lay RX4 TX4 13, u_lay RX4 TX4 14, u_lay RX4 TX4 15], w ∈ TB
  exact List.forall_mem_cons.mpr ⟨TB_mem (List.mem_of_getElem? (i := 231) (by decide +kernel)) rfl, List.forall_mem_cons.mpr ⟨TB_mem (List.mem_of_getElem? (i := 233) (by decide +kernel)) rfl, List.forall_mem_cons.mpr ⟨TB_mem (List.mem_of_getElem? (i := 235) (by decide +kernel)) rfl, List.forall_mem_cons.mpr ⟨TB_mem (List.mem_of_getElem? (i := 237) (by decide +kernel)) rfl, List.forall_mem_cons.mpr ⟨TB_mem (List.mem_of_getElem? (i := 239) (by decide +kernel)) rfl, List.forall_mem_cons.mpr ⟨TB_mem (List.mem_of_getElem? (i := 241) (by decide +kernel)) rfl, List.forall_mem_cons.mpr ⟨TB_mem (List.mem_of_getElem? (i := 243) (by decide +kernel)) rfl, List.forall_mem_cons.mpr ⟨TB_mem (List.mem_of_getElem? (i := 245) (by decide +kernel)) rfl, List.forall_mem_cons.mpr ⟨TB_mem (List.mem_of_getElem? (i := 247) (by decide +kernel)) rfl, List.forall_mem_cons.mpr ⟨TB_mem (List.mem_of_getElem? (i := 249) (by decide +kernel)) rfl, List.forall_mem_cons.mpr ⟨TB_mem (List.mem_of_getElem? (i := 251) (by decide +kernel)) rfl, List.forall_mem_cons.mpr ⟨TB_mem (List.mem_of_getElem? (i := 253) (by decide +kernel)) rfl, List.forall_mem_cons.mpr ⟨TB_mem (List.mem_of_getElem? (i := 255) (by decide +kernel)) rfl, List.forall_mem_cons.mpr ⟨TB_mem (List.mem_of_getElem? (i := 257) (by decide +kernel)) rfl, List.forall_mem_cons.mpr ⟨TB_mem (List.mem_of_getElem? (i := 259) (by decide +kernel)) rfl, List.forall_mem_cons.mpr ⟨TB_mem (List.mem_of_getElem? (i := 261) (by decide +kernel)) rfl, fun _ h => absurd h List.not_mem_nil⟩⟩⟩⟩⟩⟩⟩⟩⟩⟩⟩⟩⟩⟩⟩⟩
theorem uw_X5 : ∀ w ∈ u_ws RX5 TX5 11, w ∈ TB := by
  show ∀ w ∈ [u_lay RX5 TX5 0, u_lay RX5 TX5 1, u_lay RX5 TX5 2, u_lay RX5 TX5 3, u_lay RX5 TX5 4, u_lay RX5 TX5 5, u_lay RX5 TX5 6, u_lay RX5 TX5 7, u_lay RX5 TX5 8, u_lay RX5 TX5 9, u_lay RX5 TX5 10], w ∈ TB
  exact List.forall_mem_cons.mpr ⟨TB_mem (List.mem_of_getElem? (i := 136) (by decide +kernel)) rfl, List.forall_mem_cons.mpr ⟨TB_mem (List.mem_of_getElem? (i := 138) (by decide +kernel)) rfl, List.forall_mem_cons.mpr ⟨TB_mem (List.mem_of_getElem? (i := 140) (by decide +kernel)) rfl, List.forall_mem_cons.mpr ⟨TB_mem (List.mem_of_getElem? (i := 142) (by decide +kernel)) rfl, List.forall_mem_cons.mpr ⟨TB_mem (List.mem_of_getElem? (i := 144) (by decide +kernel)) rfl, List.forall_mem_cons.mpr ⟨TB_mem (List.mem_of_getElem? (i := 146) (by decide +kernel)) rfl, List.forall_mem_cons.mpr ⟨TB_mem (List.mem_of_getElem? (i := 148) (by decide +kernel)) rfl, List.forall_mem_cons.mpr ⟨TB_mem (List.mem_of_getElem? (i := 150) (by decide +kernel)) rfl, List.forall_mem_cons.mpr ⟨TB_mem (List.mem_of_getElem? (i := 152) (by decide +kernel)) rfl, List.forall_mem_cons.mpr ⟨TB_mem (List.mem_of_getElem? (i := 154) (by decide +kernel)) rfl, List.forall_mem_cons.mpr ⟨TB_mem (List.mem_of_getElem? (i := 156) (by decide +kernel)) rfl, fun _ h => absurd h List.not_mem_nil⟩⟩⟩⟩⟩⟩⟩⟩⟩⟩⟩
theorem uw_X6 : ∀ w ∈ u_ws RX6 TX6 36, w ∈ TB := by
  show ∀ w ∈ [u_lay RX6 TX6 0, u_lay RX6 TX6 1, u_lay RX6 TX6 2, u_lay RX6 TX6 3, u_lay RX6 TX6 4, u_lay RX6 TX6 5, u_lay RX6 TX6 6, u_lay RX6 TX6 7, u_lay RX6 TX6 8, u_lay RX6 TX6 9, u_lay RX6 TX6 10, u_lay RX6 TX6 11, u_lay RX6 TX6 12, u_lay RX6 TX6 13, u_lay RX6 TX6 14, u_lay RX6 TX6 15, u_lay RX6 TX6 16, u_lay RX6 TX6 17, u_lay RX6 TX6 18, u_lay RX6 TX6 19, u_lay RX6 TX6 20, u_lay RX6 TX6 21, u_lay RX6 TX6 22, u_lay RX6 TX6 23, u_lay RX6 TX6 24, u_lay RX6 TX6 25, u_lay RX6 TX6 26, u_lay RX6 TX6 27, u_lay RX6 TX6 28, u_lay RX6 TX6 29, u_lay RX6 TX6 30, u_lay RX6 TX6 31, u_lay RX6 TX6 32, u_lay RX6 TX6 33, u_lay RX6 TX6 34, u_lay RX6 TX6 35], w ∈ TB
  exact List.forall_mem_cons.mpr ⟨TB_mem (List.mem_of_getElem? (i := 505) (by decide +kernel)) rfl, List.forall_mem_cons.mpr ⟨TB_mem (List.mem_of_getElem? (i := 507) (by decide +kernel)) rfl, List.forall_mem_cons.mpr ⟨TB_mem (List.mem_of_getElem? (i := 509) (by decide +kernel)) rfl, List.forall_mem_cons.mpr ⟨TB_mem (List.mem_of_getElem? (i := 511) (by decide +kernel)) rfl, List.forall_mem_cons.mpr ⟨TB_mem (List.mem_of_getElem? (i := 513) (by decide +kernel)) rfl, List.forall_mem_cons.mpr ⟨TB_mem (List.mem_of_getElem? (i := 515) (by decide +kernel)) rfl, List.forall_mem_cons.mpr ⟨TB_mem (List.mem_of_getElem? (i := 517) (by decide +kernel)) rfl, List.forall_mem_cons.mpr ⟨TB_mem (List.mem_of_getElem? (i := 519) (by decide +kernel)) rfl, List.forall_mem_cons.mpr ⟨TB_mem (List.mem_of_getElem? (i := 521) (by decide +kernel)) rfl, List.forall_mem_cons.mpr ⟨TB_mem (List.mem_of_getElem? (i := 523) (by decide +kernel)) rfl, List.forall_mem_cons.mpr ⟨TB_mem (List.mem_of_getElem? (i := 525) (by decide +kernel)) rfl, List.forall_mem_cons.mpr ⟨TB_mem (List.mem_of_getElem? (i := 527) (by decide +kernel)) rfl, List.forall_mem_cons.mpr ⟨TB_mem (List.mem_of_getElem? (i := 529) (by decide +kernel)) rfl, List.forall_mem_cons.mpr ⟨TB_mem (List.mem_of_getElem? (i := 531) (by decide +kernel)) rfl, List.forall_mem_cons.mpr ⟨TB_mem (List.mem_of_getElem? (i := 533) (by decide +kernel)) rfl, List.forall_mem_cons.mpr ⟨TB_mem (List.mem_of_getElem? (i := 535) (by decide +kernel)) rfl, List.forall_mem_cons.mpr ⟨TB_mem (List.mem_of_getElem? (i := 537) (by decide +kernel)) rfl, List.forall_mem_cons.mpr ⟨TB_mem (List.mem_of_getElem? (i := 539) (by decide +kernel)) rfl, List.forall_mem_cons.mpr ⟨TB_mem (List.mem_of_getElem? (i := 541) (by decide +kernel)) rfl, List.forall_mem_cons.mpr ⟨TB_mem (List.mem_of_getElem? (i := 543) (by decide +kernel)) rfl, List.forall_mem_cons.mpr ⟨TB_mem (List.mem_of_getElem? (i := 545) (by decide +kernel)) rfl, List.forall_mem_cons.mpr ⟨TB_mem (List.mem_of_getElem? (i := 547) (by decide +kernel)) rfl, List.forall_mem_cons.mpr ⟨TB_mem (List.mem_of_getElem? (i := 549) (by decide +kernel)) rfl, List.forall_mem_cons.mpr ⟨TB_mem (List.mem_of_getElem? (i := 551) (by decide +kernel)) rfl, List.forall_mem_cons.mpr ⟨TB_mem (List.mem_of_getElem? (i := 553) (by decide +kernel)) rfl, List.forall_mem_cons.mpr ⟨TB_mem (List.mem_of_getElem? (i := 555) (by decide +kernel)) rfl, List.forall_mem_cons.mpr ⟨TB_mem (List.mem_of_getElem? (i := 557) (by decide +kernel)) rfl, List.forall_mem_cons.mpr ⟨TB_mem (List.mem_of_getElem? (i := 559) (by decide +kernel)) rfl, List.forall_mem_cons.mpr ⟨TB_mem (List.mem_of_getElem? (i := 561) (by decide +kernel)) rfl, List.forall_mem_cons.mpr ⟨TB_mem (List.mem_of_getElem? (i := 563) (by decide +kernel)) rfl, List.forall_mem_cons.mpr ⟨TB_mem (List.mem_of_getElem? (i := 565) (by decide +kernel)) rfl, List.forall_mem_cons.mpr ⟨TB_mem (List.mem_of_getElem? (i := 567) (by decide +kernel)) rfl, List.forall_mem_cons.mpr ⟨TB_mem (List.mem_of_getElem? (i := 569) (by decide +kernel)) rfl, List.forall_mem_cons.mpr ⟨TB_mem (List.mem_of_getElem? (i := 571) (by decide +kernel)) rfl, List.forall_mem_cons.mpr ⟨TB_mem (List.mem_of_getElem? (i := 573) (by decide +kernel)) rfl, List.forall_mem_cons.mpr ⟨TB_mem (List.mem_of_getElem? (i := 575) (by decide +kernel)) rfl, fun _ h => absurd h List.not_mem_nil⟩⟩⟩⟩⟩⟩⟩⟩⟩⟩⟩⟩⟩⟩⟩⟩⟩⟩⟩⟩⟩⟩⟩⟩⟩⟩⟩⟩⟩⟩⟩⟩⟩⟩⟩⟩
