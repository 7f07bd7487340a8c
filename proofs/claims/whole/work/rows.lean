section
/-- a private method of a class that the tables say can be made, by its rows of tables_1 -/
def lw_okq (q : MethodName × Nat) : Prop := (q.1.cls ≠ "java/lang/invoke/MethodHandle" ∧ q.1.cls ≠ "java/lang/invoke/VarHandle") ∧ Cond.instantiable q.1.cls q.2 ∈ tables_1 ∧ Cond.privateMethod q.1 ∈ tables_1 ∧ Cond.instanceMethod q.1 ∈ tables_1
theorem lw_p0 : lw_okq (⟨"ShipCut", "sectionAt", "(I)LShipCut$Section;"⟩, 11) := ⟨⟨by decide +kernel, by decide +kernel⟩, List.mem_of_getElem? (i := 10) (by decide +kernel), List.mem_of_getElem? (i := 129) (by decide +kernel), List.mem_of_getElem? (i := 130) (by decide +kernel)⟩
theorem lw_p1 : lw_okq (⟨"ShipCut", "convoyAt", "(I)LShipCut$Convoy;"⟩, 11) := ⟨⟨by decide +kernel, by decide +kernel⟩, List.mem_of_getElem? (i := 10) (by decide +kernel), List.mem_of_getElem? (i := 266) (by decide +kernel), List.mem_of_getElem? (i := 267) (by decide +kernel)⟩
theorem lw_p2 : lw_okq (⟨"ShipCut", "startConvoys", "()V"⟩, 11) := ⟨⟨by decide +kernel, by decide +kernel⟩, List.mem_of_getElem? (i := 10) (by decide +kernel), List.mem_of_getElem? (i := 290) (by decide +kernel), List.mem_of_getElem? (i := 291) (by decide +kernel)⟩
theorem lw_p3 : lw_okq (⟨"ShipCut", "joinLine", "(LShipCut$Row;)V"⟩, 11) := ⟨⟨by decide +kernel, by decide +kernel⟩, List.mem_of_getElem? (i := 10) (by decide +kernel), List.mem_of_getElem? (i := 294) (by decide +kernel), List.mem_of_getElem? (i := 295) (by decide +kernel)⟩
theorem lw_p4 : lw_okq (⟨"ShipCut", "lineOf", "(I)LShipCut$Row;"⟩, 11) := ⟨⟨by decide +kernel, by decide +kernel⟩, List.mem_of_getElem? (i := 10) (by decide +kernel), List.mem_of_getElem? (i := 298) (by decide +kernel), List.mem_of_getElem? (i := 299) (by decide +kernel)⟩
theorem lw_p5 : lw_okq (⟨"ShipCut", "findLateShips", "()V"⟩, 11) := ⟨⟨by decide +kernel, by decide +kernel⟩, List.mem_of_getElem? (i := 10) (by decide +kernel), List.mem_of_getElem? (i := 302) (by decide +kernel), List.mem_of_getElem? (i := 303) (by decide +kernel)⟩
theorem lw_p6 : lw_okq (⟨"ShipCut", "missedConvoy", "(LShipCut$Ship;)Z"⟩, 11) := ⟨⟨by decide +kernel, by decide +kernel⟩, List.mem_of_getElem? (i := 10) (by decide +kernel), List.mem_of_getElem? (i := 306) (by decide +kernel), List.mem_of_getElem? (i := 307) (by decide +kernel)⟩
theorem lw_p7 : lw_okq (⟨"ShipCut", "takeLateShip", "(LShipCut$Ship;)V"⟩, 11) := ⟨⟨by decide +kernel, by decide +kernel⟩, List.mem_of_getElem? (i := 10) (by decide +kernel), List.mem_of_getElem? (i := 310) (by decide +kernel), List.mem_of_getElem? (i := 311) (by decide +kernel)⟩
theorem lw_p8 : lw_okq (⟨"ShipCut", "nextConvoy", "(I)I"⟩, 11) := ⟨⟨by decide +kernel, by decide +kernel⟩, List.mem_of_getElem? (i := 10) (by decide +kernel), List.mem_of_getElem? (i := 314) (by decide +kernel), List.mem_of_getElem? (i := 315) (by decide +kernel)⟩
theorem lw_p9 : lw_okq (⟨"ShipCut", "moveShips", "(I)V"⟩, 11) := ⟨⟨by decide +kernel, by decide +kernel⟩, List.mem_of_getElem? (i := 10) (by decide +kernel), List.mem_of_getElem? (i := 318) (by decide +kernel), List.mem_of_getElem? (i := 319) (by decide +kernel)⟩
theorem lw_p10 : lw_okq (⟨"ShipCut", "moveWithin", "(LShipCut$Section;LShipCut$Row;)V"⟩, 11) := ⟨⟨by decide +kernel, by decide +kernel⟩, List.mem_of_getElem? (i := 10) (by decide +kernel), List.mem_of_getElem? (i := 326) (by decide +kernel), List.mem_of_getElem? (i := 327) (by decide +kernel)⟩
theorem lw_p11 : lw_okq (⟨"ShipCut", "leaves", "(LShipCut$Ship;LShipCut$Section;Z)Z"⟩, 11) := ⟨⟨by decide +kernel, by decide +kernel⟩, List.mem_of_getElem? (i := 10) (by decide +kernel), List.mem_of_getElem? (i := 334) (by decide +kernel), List.mem_of_getElem? (i := 335) (by decide +kernel)⟩
theorem lw_p12 : lw_okq (⟨"ShipCut", "causeAgainst", "(LShipCut$Ship;LShipCut$Section;)I"⟩, 11) := ⟨⟨by decide +kernel, by decide +kernel⟩, List.mem_of_getElem? (i := 10) (by decide +kernel), List.mem_of_getElem? (i := 338) (by decide +kernel), List.mem_of_getElem? (i := 339) (by decide +kernel)⟩
theorem lw_p13 : lw_okq (⟨"ShipCut", "reachesShip", "(III)Z"⟩, 11) := ⟨⟨by decide +kernel, by decide +kernel⟩, List.mem_of_getElem? (i := 10) (by decide +kernel), List.mem_of_getElem? (i := 348) (by decide +kernel), List.mem_of_getElem? (i := 349) (by decide +kernel)⟩
theorem lw_p14 : lw_okq (⟨"ShipCut", "depthNow", "(LShipCut$Section;)I"⟩, 11) := ⟨⟨by decide +kernel, by decide +kernel⟩, List.mem_of_getElem? (i := 10) (by decide +kernel), List.mem_of_getElem? (i := 352) (by decide +kernel), List.mem_of_getElem? (i := 353) (by decide +kernel)⟩
theorem lw_p15 : lw_okq (⟨"ShipCut", "hourNow", "()I"⟩, 11) := ⟨⟨by decide +kernel, by decide +kernel⟩, List.mem_of_getElem? (i := 10) (by decide +kernel), List.mem_of_getElem? (i := 356) (by decide +kernel), List.mem_of_getElem? (i := 357) (by decide +kernel)⟩
def lw_privs_1 : List (MethodName × Nat) := [(⟨"ShipCut", "sectionAt", "(I)LShipCut$Section;"⟩, 11), (⟨"ShipCut", "convoyAt", "(I)LShipCut$Convoy;"⟩, 11), (⟨"ShipCut", "startConvoys", "()V"⟩, 11), (⟨"ShipCut", "joinLine", "(LShipCut$Row;)V"⟩, 11), (⟨"ShipCut", "lineOf", "(I)LShipCut$Row;"⟩, 11), (⟨"ShipCut", "findLateShips", "()V"⟩, 11), (⟨"ShipCut", "missedConvoy", "(LShipCut$Ship;)Z"⟩, 11), (⟨"ShipCut", "takeLateShip", "(LShipCut$Ship;)V"⟩, 11), (⟨"ShipCut", "nextConvoy", "(I)I"⟩, 11), (⟨"ShipCut", "moveShips", "(I)V"⟩, 11), (⟨"ShipCut", "moveWithin", "(LShipCut$Section;LShipCut$Row;)V"⟩, 11), (⟨"ShipCut", "leaves", "(LShipCut$Ship;LShipCut$Section;Z)Z"⟩, 11), (⟨"ShipCut", "causeAgainst", "(LShipCut$Ship;LShipCut$Section;)I"⟩, 11), (⟨"ShipCut", "reachesShip", "(III)Z"⟩, 11), (⟨"ShipCut", "depthNow", "(LShipCut$Section;)I"⟩, 11), (⟨"ShipCut", "hourNow", "()I"⟩, 11)]
theorem lw_r1 : ∀ q ∈ lw_privs_1, lw_okq q := List.forall_mem_cons.mpr ⟨lw_p0, List.forall_mem_cons.mpr ⟨lw_p1, List.forall_mem_cons.mpr ⟨lw_p2, List.forall_mem_cons.mpr ⟨lw_p3, List.forall_mem_cons.mpr ⟨lw_p4, List.forall_mem_cons.mpr ⟨lw_p5, List.forall_mem_cons.mpr ⟨lw_p6, List.forall_mem_cons.mpr ⟨lw_p7, List.forall_mem_cons.mpr ⟨lw_p8, List.forall_mem_cons.mpr ⟨lw_p9, List.forall_mem_cons.mpr ⟨lw_p10, List.forall_mem_cons.mpr ⟨lw_p11, List.forall_mem_cons.mpr ⟨lw_p12, List.forall_mem_cons.mpr ⟨lw_p13, List.forall_mem_cons.mpr ⟨lw_p14, List.forall_mem_cons.mpr ⟨lw_p15, fun _ h => absurd h List.not_mem_nil⟩⟩⟩⟩⟩⟩⟩⟩⟩⟩⟩⟩⟩⟩⟩⟩
theorem lw_p16 : lw_okq (⟨"ShipCut", "windBarsGreat", "()Z"⟩, 11) := ⟨⟨by decide +kernel, by decide +kernel⟩, List.mem_of_getElem? (i := 10) (by decide +kernel), List.mem_of_getElem? (i := 360) (by decide +kernel), List.mem_of_getElem? (i := 361) (by decide +kernel)⟩
theorem lw_p17 : lw_okq (⟨"ShipCut", "comesInto", "(LShipCut$Ship;LShipCut$Section;I)Z"⟩, 11) := ⟨⟨by decide +kernel, by decide +kernel⟩, List.mem_of_getElem? (i := 10) (by decide +kernel), List.mem_of_getElem? (i := 364) (by decide +kernel), List.mem_of_getElem? (i := 365) (by decide +kernel)⟩
theorem lw_p18 : lw_okq (⟨"ShipCut", "letFirstIn", "(I)V"⟩, 11) := ⟨⟨by decide +kernel, by decide +kernel⟩, List.mem_of_getElem? (i := 10) (by decide +kernel), List.mem_of_getElem? (i := 372) (by decide +kernel), List.mem_of_getElem? (i := 373) (by decide +kernel)⟩
theorem lw_p19 : lw_okq (⟨"ShipCut", "shipsThat", "(I)I"⟩, 11) := ⟨⟨by decide +kernel, by decide +kernel⟩, List.mem_of_getElem? (i := 10) (by decide +kernel), List.mem_of_getElem? (i := 411) (by decide +kernel), List.mem_of_getElem? (i := 412) (by decide +kernel)⟩
theorem lw_p20 : lw_okq (⟨"ShipCut", "mostWaysInOneSection", "()I"⟩, 11) := ⟨⟨by decide +kernel, by decide +kernel⟩, List.mem_of_getElem? (i := 10) (by decide +kernel), List.mem_of_getElem? (i := 420) (by decide +kernel), List.mem_of_getElem? (i := 421) (by decide +kernel)⟩
theorem lw_p21 : lw_okq (⟨"ShipCutModel", "starts", "()V"⟩, 36) := ⟨⟨by decide +kernel, by decide +kernel⟩, List.mem_of_getElem? (i := 429) (by decide +kernel), List.mem_of_getElem? (i := 585) (by decide +kernel), List.mem_of_getElem? (i := 586) (by decide +kernel)⟩
theorem lw_p22 : lw_okq (⟨"ShipCutModel", "joins", "(I)V"⟩, 36) := ⟨⟨by decide +kernel, by decide +kernel⟩, List.mem_of_getElem? (i := 429) (by decide +kernel), List.mem_of_getElem? (i := 589) (by decide +kernel), List.mem_of_getElem? (i := 590) (by decide +kernel)⟩
theorem lw_p23 : lw_okq (⟨"ShipCutModel", "lates", "()V"⟩, 36) := ⟨⟨by decide +kernel, by decide +kernel⟩, List.mem_of_getElem? (i := 429) (by decide +kernel), List.mem_of_getElem? (i := 593) (by decide +kernel), List.mem_of_getElem? (i := 594) (by decide +kernel)⟩
theorem lw_p24 : lw_okq (⟨"ShipCutModel", "nextConvoy", "(I)I"⟩, 36) := ⟨⟨by decide +kernel, by decide +kernel⟩, List.mem_of_getElem? (i := 429) (by decide +kernel), List.mem_of_getElem? (i := 597) (by decide +kernel), List.mem_of_getElem? (i := 598) (by decide +kernel)⟩
theorem lw_p25 : lw_okq (⟨"ShipCutModel", "moves", "(II)V"⟩, 36) := ⟨⟨by decide +kernel, by decide +kernel⟩, List.mem_of_getElem? (i := 429) (by decide +kernel), List.mem_of_getElem? (i := 601) (by decide +kernel), List.mem_of_getElem? (i := 602) (by decide +kernel)⟩
theorem lw_p26 : lw_okq (⟨"ShipCutModel", "goes", "(II)Z"⟩, 36) := ⟨⟨by decide +kernel, by decide +kernel⟩, List.mem_of_getElem? (i := 429) (by decide +kernel), List.mem_of_getElem? (i := 605) (by decide +kernel), List.mem_of_getElem? (i := 606) (by decide +kernel)⟩
theorem lw_p27 : lw_okq (⟨"ShipCutModel", "leaves", "(II)V"⟩, 36) := ⟨⟨by decide +kernel, by decide +kernel⟩, List.mem_of_getElem? (i := 429) (by decide +kernel), List.mem_of_getElem? (i := 609) (by decide +kernel), List.mem_of_getElem? (i := 610) (by decide +kernel)⟩
theorem lw_p28 : lw_okq (⟨"ShipCutModel", "cause", "(II)I"⟩, 36) := ⟨⟨by decide +kernel, by decide +kernel⟩, List.mem_of_getElem? (i := 429) (by decide +kernel), List.mem_of_getElem? (i := 613) (by decide +kernel), List.mem_of_getElem? (i := 614) (by decide +kernel)⟩
theorem lw_p29 : lw_okq (⟨"ShipCutModel", "isAground", "(I)Z"⟩, 36) := ⟨⟨by decide +kernel, by decide +kernel⟩, List.mem_of_getElem? (i := 429) (by decide +kernel), List.mem_of_getElem? (i := 617) (by decide +kernel), List.mem_of_getElem? (i := 618) (by decide +kernel)⟩
theorem lw_p30 : lw_okq (⟨"ShipCutModel", "isOncoming", "(II)Z"⟩, 36) := ⟨⟨by decide +kernel, by decide +kernel⟩, List.mem_of_getElem? (i := 429) (by decide +kernel), List.mem_of_getElem? (i := 621) (by decide +kernel), List.mem_of_getElem? (i := 622) (by decide +kernel)⟩
theorem lw_p31 : lw_okq (⟨"ShipCutModel", "enters", "(II)V"⟩, 36) := ⟨⟨by decide +kernel, by decide +kernel⟩, List.mem_of_getElem? (i := 429) (by decide +kernel), List.mem_of_getElem? (i := 625) (by decide +kernel), List.mem_of_getElem? (i := 626) (by decide +kernel)⟩
def lw_privs_2 : List (MethodName × Nat) := [(⟨"ShipCut", "windBarsGreat", "()Z"⟩, 11), (⟨"ShipCut", "comesInto", "(LShipCut$Ship;LShipCut$Section;I)Z"⟩, 11), (⟨"ShipCut", "letFirstIn", "(I)V"⟩, 11), (⟨"ShipCut", "shipsThat", "(I)I"⟩, 11), (⟨"ShipCut", "mostWaysInOneSection", "()I"⟩, 11), (⟨"ShipCutModel", "starts", "()V"⟩, 36), (⟨"ShipCutModel", "joins", "(I)V"⟩, 36), (⟨"ShipCutModel", "lates", "()V"⟩, 36), (⟨"ShipCutModel", "nextConvoy", "(I)I"⟩, 36), (⟨"ShipCutModel", "moves", "(II)V"⟩, 36), (⟨"ShipCutModel", "goes", "(II)Z"⟩, 36), (⟨"ShipCutModel", "leaves", "(II)V"⟩, 36), (⟨"ShipCutModel", "cause", "(II)I"⟩, 36), (⟨"ShipCutModel", "isAground", "(I)Z"⟩, 36), (⟨"ShipCutModel", "isOncoming", "(II)Z"⟩, 36), (⟨"ShipCutModel", "enters", "(II)V"⟩, 36)]
theorem lw_r2 : ∀ q ∈ lw_privs_2, lw_okq q := List.forall_mem_cons.mpr ⟨lw_p16, List.forall_mem_cons.mpr ⟨lw_p17, List.forall_mem_cons.mpr ⟨lw_p18, List.forall_mem_cons.mpr ⟨lw_p19, List.forall_mem_cons.mpr ⟨lw_p20, List.forall_mem_cons.mpr ⟨lw_p21, List.forall_mem_cons.mpr ⟨lw_p22, List.forall_mem_cons.mpr ⟨lw_p23, List.forall_mem_cons.mpr ⟨lw_p24, List.forall_mem_cons.mpr ⟨lw_p25, List.forall_mem_cons.mpr ⟨lw_p26, List.forall_mem_cons.mpr ⟨lw_p27, List.forall_mem_cons.mpr ⟨lw_p28, List.forall_mem_cons.mpr ⟨lw_p29, List.forall_mem_cons.mpr ⟨lw_p30, List.forall_mem_cons.mpr ⟨lw_p31, fun _ h => absurd h List.not_mem_nil⟩⟩⟩⟩⟩⟩⟩⟩⟩⟩⟩⟩⟩⟩⟩⟩
theorem lw_p32 : lw_okq (⟨"ShipCutModel", "comesIn", "(I)V"⟩, 36) := ⟨⟨by decide +kernel, by decide +kernel⟩, List.mem_of_getElem? (i := 429) (by decide +kernel), List.mem_of_getElem? (i := 629) (by decide +kernel), List.mem_of_getElem? (i := 630) (by decide +kernel)⟩
theorem lw_p33 : lw_okq (⟨"ShipCutModel", "dues", "(I)I"⟩, 36) := ⟨⟨by decide +kernel, by decide +kernel⟩, List.mem_of_getElem? (i := 429) (by decide +kernel), List.mem_of_getElem? (i := 637) (by decide +kernel), List.mem_of_getElem? (i := 638) (by decide +kernel)⟩
theorem lw_p34 : lw_okq (⟨"ShipCutModel", "several", "()I"⟩, 36) := ⟨⟨by decide +kernel, by decide +kernel⟩, List.mem_of_getElem? (i := 429) (by decide +kernel), List.mem_of_getElem? (i := 658) (by decide +kernel), List.mem_of_getElem? (i := 659) (by decide +kernel)⟩
def lw_privs_3 : List (MethodName × Nat) := [(⟨"ShipCutModel", "comesIn", "(I)V"⟩, 36), (⟨"ShipCutModel", "dues", "(I)I"⟩, 36), (⟨"ShipCutModel", "several", "()I"⟩, 36)]
theorem lw_r3 : ∀ q ∈ lw_privs_3, lw_okq q := List.forall_mem_cons.mpr ⟨lw_p32, List.forall_mem_cons.mpr ⟨lw_p33, List.forall_mem_cons.mpr ⟨lw_p34, fun _ h => absurd h List.not_mem_nil⟩⟩⟩
def lw_privs : List (MethodName × Nat) := lw_privs_1 ++ (lw_privs_2 ++ (lw_privs_3))
def lw_tbl : List Cond := k2_sels lw_privs ++ tables_1
theorem lw_privs_ok : ∀ q ∈ lw_privs, lw_okq q := by
  show ∀ q ∈ lw_privs_1 ++ (lw_privs_2 ++ (lw_privs_3)), lw_okq q
  exact List.forall_mem_append.mpr ⟨lw_r1, List.forall_mem_append.mpr ⟨lw_r2, lw_r3⟩⟩
def RX0 : String := "ShipCut$Convoy"
def TX0 : u_T := fun k => match k with
  | 0 => ("ShipCut$Convoy", "way", "I", true)
  | 1 => ("ShipCut$Convoy", "start", "I", true)
  | 2 => ("ShipCut$Convoy", "booked", "LShipCut$Row;", true)
  | _ => ("ShipCut$Convoy", "putOff", "LShipCut$Row;", true)
def tyX0 : Nat → FieldType := fun k => match k with
  | 0 => .int
  | 1 => .int
  | 2 => .object "ShipCut$Row"
  | _ => .object "ShipCut$Row"
abbrev wsX00 : List Cond := u_ws RX0 TX0 4
theorem nmX0 : ∀ a, a < 4 → ∀ b, b < 4 → a ≠ b → (TX0 a).2.1 ≠ (TX0 b).2.1 := by decide +kernel
theorem tyX0_ok : ∀ k, k < 4 → parseFieldDescriptor (TX0 k).2.2.1 = some (tyX0 k) := by decide +kernel
abbrev cX0_init : ByteArray := prog_2_method_1_code
def yX0_init : MethodName := ⟨RX0, "<init>", "(II)V"⟩
def RX1 : String := "ShipCut$Lane"
def TX1 : u_T := fun k => match k with
  | 0 => ("ShipCut$Lane", "ships", "LShipCut$Row;", true)
  | _ => ("ShipCut$Lane", "lastCame", "I", false)
def tyX1 : Nat → FieldType := fun k => match k with
  | 0 => .object "ShipCut$Row"
  | _ => .int
abbrev wsX10 : List Cond := u_ws RX1 TX1 2
theorem nmX1 : ∀ a, a < 2 → ∀ b, b < 2 → a ≠ b → (TX1 a).2.1 ≠ (TX1 b).2.1 := by decide +kernel
theorem tyX1_ok : ∀ k, k < 2 → parseFieldDescriptor (TX1 k).2.2.1 = some (tyX1 k) := by decide +kernel
abbrev cX1_init : ByteArray := prog_3_method_1_code
def yX1_init : MethodName := ⟨RX1, "<init>", "()V"⟩
def RX2 : String := "ShipCut$Row"
def TX2 : u_T := fun k => match k with
  | 0 => ("ShipCut$Row", "places", "[LShipCut$Ship;", true)
  | _ => ("ShipCut$Row", "size", "I", false)
def tyX2 : Nat → FieldType := fun k => match k with
  | 0 => .array (.object "ShipCut$Ship")
  | _ => .int
abbrev wsX20 : List Cond := u_ws RX2 TX2 2
theorem nmX2 : ∀ a, a < 2 → ∀ b, b < 2 → a ≠ b → (TX2 a).2.1 ≠ (TX2 b).2.1 := by decide +kernel
theorem tyX2_ok : ∀ k, k < 2 → parseFieldDescriptor (TX2 k).2.2.1 = some (tyX2 k) := by decide +kernel
abbrev cX2_init : ByteArray := prog_4_method_1_code
def yX2_init : MethodName := ⟨RX2, "<init>", "(I)V"⟩
abbrev cX2_isFull : ByteArray := prog_4_method_2_code
def yX2_isFull : MethodName := ⟨RX2, "isFull", "()Z"⟩
abbrev cX2_add : ByteArray := prog_4_method_3_code
def yX2_add : MethodName := ⟨RX2, "add", "(LShipCut$Ship;)V"⟩
abbrev cX2_at : ByteArray := prog_4_method_4_code
def yX2_at : MethodName := ⟨RX2, "at", "(I)LShipCut$Ship;"⟩
abbrev cX2_numberAt : ByteArray := prog_4_method_5_code
def yX2_numberAt : MethodName := ⟨RX2, "numberAt", "(I)I"⟩
abbrev cX2_hasAground : ByteArray := prog_4_method_6_code
def yX2_hasAground : MethodName := ⟨RX2, "hasAground", "(I)Z"⟩
abbrev cX2_removeFirst : ByteArray := prog_4_method_7_code
def yX2_removeFirst : MethodName := ⟨RX2, "removeFirst", "()V"⟩
def RX3 : String := "ShipCut$Section"
def TX3 : u_T := fun k => match k with
  | 0 => ("ShipCut$Section", "number", "I", true)
  | 1 => ("ShipCut$Section", "length", "I", false)
  | 2 => ("ShipCut$Section", "depth", "I", false)
  | 3 => ("ShipCut$Section", "bypass", "Z", false)
  | 4 => ("ShipCut$Section", "north", "LShipCut$Lane;", true)
  | _ => ("ShipCut$Section", "south", "LShipCut$Lane;", true)
def tyX3 : Nat → FieldType := fun k => match k with
  | 0 => .int
  | 1 => .int
  | 2 => .int
  | 3 => .boolean
  | 4 => .object "ShipCut$Lane"
  | _ => .object "ShipCut$Lane"
abbrev wsX30 : List Cond := u_ws RX3 TX3 6
theorem nmX3 : ∀ a, a < 6 → ∀ b, b < 6 → a ≠ b → (TX3 a).2.1 ≠ (TX3 b).2.1 := by decide +kernel
theorem tyX3_ok : ∀ k, k < 6 → parseFieldDescriptor (TX3 k).2.2.1 = some (tyX3 k) := by decide +kernel
abbrev cX3_init : ByteArray := prog_5_method_1_code
def yX3_init : MethodName := ⟨RX3, "<init>", "(I)V"⟩
abbrev cX3_lane : ByteArray := prog_5_method_2_code
def yX3_lane : MethodName := ⟨RX3, "lane", "(I)LShipCut$Lane;"⟩
abbrev cX3_waysInside : ByteArray := prog_5_method_3_code
def yX3_waysInside : MethodName := ⟨RX3, "waysInside", "()I"⟩
def RX4 : String := "ShipCut$Ship"
def TX4 : u_T := fun k => match k with
  | 0 => ("ShipCut$Ship", "number", "I", true)
  | 1 => ("ShipCut$Ship", "way", "I", true)
  | 2 => ("ShipCut$Ship", "minute", "I", true)
  | 3 => ("ShipCut$Ship", "great", "Z", true)
  | 4 => ("ShipCut$Ship", "draught", "I", true)
  | 5 => ("ShipCut$Ship", "slow", "Z", true)
  | 6 => ("ShipCut$Ship", "tons", "I", true)
  | 7 => ("ShipCut$Ship", "waits", "[I", true)
  | 8 => ("ShipCut$Ship", "place", "I", false)
  | 9 => ("ShipCut$Ship", "toGo", "I", false)
  | 10 => ("ShipCut$Ship", "late", "Z", false)
  | 11 => ("ShipCut$Ship", "left", "Z", false)
  | 12 => ("ShipCut$Ship", "cameIn", "I", false)
  | 13 => ("ShipCut$Ship", "wentOut", "I", false)
  | 14 => ("ShipCut$Ship", "convoy", "I", false)
  | _ => ("ShipCut$Ship", "agroundUntil", "I", false)
def tyX4 : Nat → FieldType := fun k => match k with
  | 0 => .int
  | 1 => .int
  | 2 => .int
  | 3 => .boolean
  | 4 => .int
  | 5 => .boolean
  | 6 => .int
  | 7 => .array .int
  | 8 => .int
  | 9 => .int
  | 10 => .boolean
  | 11 => .boolean
  | 12 => .int
  | 13 => .int
  | 14 => .int
  | _ => .int
abbrev wsX40 : List Cond := u_ws RX4 TX4 16
theorem nmX4 : ∀ a, a < 16 → ∀ b, b < 16 → a ≠ b → (TX4 a).2.1 ≠ (TX4 b).2.1 := by decide +kernel
theorem tyX4_ok : ∀ k, k < 16 → parseFieldDescriptor (TX4 k).2.2.1 = some (tyX4 k) := by decide +kernel
abbrev cX4_init : ByteArray := prog_6_method_1_code
def yX4_init : MethodName := ⟨RX4, "<init>", "(IIIZIZI)V"⟩
abbrev cX4_isInSection : ByteArray := prog_6_method_2_code
def yX4_isInSection : MethodName := ⟨RX4, "isInSection", "()Z"⟩
abbrev cX4_isAground : ByteArray := prog_6_method_3_code
def yX4_isAground : MethodName := ⟨RX4, "isAground", "(I)Z"⟩
abbrev cX4_waitBy : ByteArray := prog_6_method_4_code
def yX4_waitBy : MethodName := ⟨RX4, "waitBy", "(I)V"⟩
abbrev cX4_waitedInAll : ByteArray := prog_6_method_5_code
def yX4_waitedInAll : MethodName := ⟨RX4, "waitedInAll", "()I"⟩
abbrev cX4_counts : ByteArray := prog_6_method_6_code
def yX4_counts : MethodName := ⟨RX4, "counts", "(I)Z"⟩
abbrev cX4_dues : ByteArray := prog_6_method_7_code
def yX4_dues : MethodName := ⟨RX4, "dues", "()I"⟩
def RX5 : String := "ShipCut"
def TX5 : u_T := fun k => match k with
  | 0 => ("ShipCut", "sections", "[LShipCut$Section;", true)
  | 1 => ("ShipCut", "tides", "[I", true)
  | 2 => ("ShipCut", "winds", "[I", true)
  | 3 => ("ShipCut", "ships", "LShipCut$Row;", true)
  | 4 => ("ShipCut", "convoys", "[LShipCut$Convoy;", true)
  | 5 => ("ShipCut", "convoyCount", "I", false)
  | 6 => ("ShipCut", "northLine", "LShipCut$Row;", true)
  | 7 => ("ShipCut", "southLine", "LShipCut$Row;", true)
  | 8 => ("ShipCut", "gap", "I", false)
  | 9 => ("ShipCut", "lateRule", "I", false)
  | _ => ("ShipCut", "now", "I", false)
def tyX5 : Nat → FieldType := fun k => match k with
  | 0 => .array (.object "ShipCut$Section")
  | 1 => .array .int
  | 2 => .array .int
  | 3 => .object "ShipCut$Row"
  | 4 => .array (.object "ShipCut$Convoy")
  | 5 => .int
  | 6 => .object "ShipCut$Row"
  | 7 => .object "ShipCut$Row"
  | 8 => .int
  | 9 => .int
  | _ => .int
abbrev wsX50 : List Cond := u_ws RX5 TX5 11
theorem nmX5 : ∀ a, a < 11 → ∀ b, b < 11 → a ≠ b → (TX5 a).2.1 ≠ (TX5 b).2.1 := by decide +kernel
theorem tyX5_ok : ∀ k, k < 11 → parseFieldDescriptor (TX5 k).2.2.1 = some (tyX5 k) := by decide +kernel
abbrev cX5_init : ByteArray := prog_1_method_1_code
def yX5_init : MethodName := ⟨RX5, "<init>", "()V"⟩
abbrev cX5_section : ByteArray := prog_1_method_2_code
def yX5_section : MethodName := ⟨RX5, "section", "(IIIZ)I"⟩
abbrev cX5_tide : ByteArray := prog_1_method_3_code
def yX5_tide : MethodName := ⟨RX5, "tide", "(II)I"⟩
abbrev cX5_wind : ByteArray := prog_1_method_4_code
def yX5_wind : MethodName := ⟨RX5, "wind", "(II)I"⟩
abbrev cX5_rule : ByteArray := prog_1_method_5_code
def yX5_rule : MethodName := ⟨RX5, "rule", "(II)I"⟩
abbrev cX5_ship : ByteArray := prog_1_method_6_code
def yX5_ship : MethodName := ⟨RX5, "ship", "(IIZIZI)I"⟩
abbrev cX5_convoy : ByteArray := prog_1_method_7_code
def yX5_convoy : MethodName := ⟨RX5, "convoy", "(II)I"⟩
abbrev cX5_book : ByteArray := prog_1_method_8_code
def yX5_book : MethodName := ⟨RX5, "book", "(II)I"⟩
abbrev cX5_ground : ByteArray := prog_1_method_9_code
def yX5_ground : MethodName := ⟨RX5, "ground", "(II)I"⟩
abbrev cX5_minutes : ByteArray := prog_1_method_10_code
def yX5_minutes : MethodName := ⟨RX5, "minutes", "(I)I"⟩
abbrev cX5_startConvoys : ByteArray := prog_1_method_11_code
def yX5_startConvoys : MethodName := ⟨RX5, "startConvoys", "()V"⟩
abbrev cX5_joinLine : ByteArray := prog_1_method_12_code
def yX5_joinLine : MethodName := ⟨RX5, "joinLine", "(LShipCut$Row;)V"⟩
abbrev cX5_findLateShips : ByteArray := prog_1_method_13_code
def yX5_findLateShips : MethodName := ⟨RX5, "findLateShips", "()V"⟩
abbrev cX5_missedConvoy : ByteArray := prog_1_method_14_code
def yX5_missedConvoy : MethodName := ⟨RX5, "missedConvoy", "(LShipCut$Ship;)Z"⟩
abbrev cX5_takeLateShip : ByteArray := prog_1_method_15_code
def yX5_takeLateShip : MethodName := ⟨RX5, "takeLateShip", "(LShipCut$Ship;)V"⟩
abbrev cX5_nextConvoy : ByteArray := prog_1_method_16_code
def yX5_nextConvoy : MethodName := ⟨RX5, "nextConvoy", "(I)I"⟩
abbrev cX5_moveShips : ByteArray := prog_1_method_17_code
def yX5_moveShips : MethodName := ⟨RX5, "moveShips", "(I)V"⟩
abbrev cX5_moveWithin : ByteArray := prog_1_method_18_code
def yX5_moveWithin : MethodName := ⟨RX5, "moveWithin", "(LShipCut$Section;LShipCut$Row;)V"⟩
abbrev cX5_leaves : ByteArray := prog_1_method_19_code
def yX5_leaves : MethodName := ⟨RX5, "leaves", "(LShipCut$Ship;LShipCut$Section;Z)Z"⟩
abbrev cX5_letFirstIn : ByteArray := prog_1_method_20_code
def yX5_letFirstIn : MethodName := ⟨RX5, "letFirstIn", "(I)V"⟩
abbrev cX5_comesInto : ByteArray := prog_1_method_21_code
def yX5_comesInto : MethodName := ⟨RX5, "comesInto", "(LShipCut$Ship;LShipCut$Section;I)Z"⟩
abbrev cX5_causeAgainst : ByteArray := prog_1_method_22_code
def yX5_causeAgainst : MethodName := ⟨RX5, "causeAgainst", "(LShipCut$Ship;LShipCut$Section;)I"⟩
abbrev cX5_reachesShip : ByteArray := prog_1_method_23_code
def yX5_reachesShip : MethodName := ⟨RX5, "reachesShip", "(III)Z"⟩
abbrev cX5_depthNow : ByteArray := prog_1_method_24_code
def yX5_depthNow : MethodName := ⟨RX5, "depthNow", "(LShipCut$Section;)I"⟩
abbrev cX5_windBarsGreat : ByteArray := prog_1_method_25_code
def yX5_windBarsGreat : MethodName := ⟨RX5, "windBarsGreat", "()Z"⟩
abbrev cX5_hourNow : ByteArray := prog_1_method_26_code
def yX5_hourNow : MethodName := ⟨RX5, "hourNow", "()I"⟩
abbrev cX5_told : ByteArray := prog_1_method_27_code
def yX5_told : MethodName := ⟨RX5, "told", "(II)I"⟩
abbrev cX5_waited : ByteArray := prog_1_method_28_code
def yX5_waited : MethodName := ⟨RX5, "waited", "(II)I"⟩
abbrev cX5_line : ByteArray := prog_1_method_29_code
def yX5_line : MethodName := ⟨RX5, "line", "(II)I"⟩
abbrev cX5_in : ByteArray := prog_1_method_30_code
def yX5_in : MethodName := ⟨RX5, "in", "(III)I"⟩
abbrev cX5_count : ByteArray := prog_1_method_31_code
def yX5_count : MethodName := ⟨RX5, "count", "(I)I"⟩
abbrev cX5_shipsThat : ByteArray := prog_1_method_32_code
def yX5_shipsThat : MethodName := ⟨RX5, "shipsThat", "(I)I"⟩
abbrev cX5_mostWaysInOneSection : ByteArray := prog_1_method_33_code
def yX5_mostWaysInOneSection : MethodName := ⟨RX5, "mostWaysInOneSection", "()I"⟩
abbrev cX5_sectionAt : ByteArray := prog_1_method_34_code
def yX5_sectionAt : MethodName := ⟨RX5, "sectionAt", "(I)LShipCut$Section;"⟩
abbrev cX5_convoyAt : ByteArray := prog_1_method_35_code
def yX5_convoyAt : MethodName := ⟨RX5, "convoyAt", "(I)LShipCut$Convoy;"⟩
abbrev cX5_lineOf : ByteArray := prog_1_method_36_code
def yX5_lineOf : MethodName := ⟨RX5, "lineOf", "(I)LShipCut$Row;"⟩
abbrev cX5_isWay : ByteArray := prog_1_method_37_code
def yX5_isWay : MethodName := ⟨RX5, "isWay", "(I)Z"⟩
abbrev cX5_within : ByteArray := prog_1_method_38_code
def yX5_within : MethodName := ⟨RX5, "within", "(III)Z"⟩
def RX6 : String := "ShipCutModel"
def TX6 : u_T := fun k => match k with
  | 0 => ("ShipCutModel", "minute", "I", false)
  | 1 => ("ShipCutModel", "gap", "I", false)
  | 2 => ("ShipCutModel", "rule", "I", false)
  | 3 => ("ShipCutModel", "length", "[I", true)
  | 4 => ("ShipCutModel", "depth", "[I", true)
  | 5 => ("ShipCutModel", "bypass", "[Z", true)
  | 6 => ("ShipCutModel", "tide", "[I", true)
  | 7 => ("ShipCutModel", "wind", "[I", true)
  | 8 => ("ShipCutModel", "ships", "I", false)
  | 9 => ("ShipCutModel", "way", "[I", true)
  | 10 => ("ShipCutModel", "there", "[I", true)
  | 11 => ("ShipCutModel", "great", "[Z", true)
  | 12 => ("ShipCutModel", "draught", "[I", true)
  | 13 => ("ShipCutModel", "slow", "[Z", true)
  | 14 => ("ShipCutModel", "tons", "[I", true)
  | 15 => ("ShipCutModel", "place", "[I", true)
  | 16 => ("ShipCutModel", "toGo", "[I", true)
  | 17 => ("ShipCutModel", "late", "[Z", true)
  | 18 => ("ShipCutModel", "left", "[Z", true)
  | 19 => ("ShipCutModel", "cameIn", "[I", true)
  | 20 => ("ShipCutModel", "wentOut", "[I", true)
  | 21 => ("ShipCutModel", "aground", "[I", true)
  | 22 => ("ShipCutModel", "convoyOf", "[I", true)
  | 23 => ("ShipCutModel", "waits", "[I", true)
  | 24 => ("ShipCutModel", "convoys", "I", false)
  | 25 => ("ShipCutModel", "convoyWay", "[I", true)
  | 26 => ("ShipCutModel", "start", "[I", true)
  | 27 => ("ShipCutModel", "bookedMany", "[I", true)
  | 28 => ("ShipCutModel", "booked", "[I", true)
  | 29 => ("ShipCutModel", "putMany", "[I", true)
  | 30 => ("ShipCutModel", "put", "[I", true)
  | 31 => ("ShipCutModel", "lineMany", "[I", true)
  | 32 => ("ShipCutModel", "line", "[I", true)
  | 33 => ("ShipCutModel", "inMany", "[I", true)
  | 34 => ("ShipCutModel", "inside", "[I", true)
  | _ => ("ShipCutModel", "lastIn", "[I", true)
def tyX6 : Nat → FieldType := fun k => match k with
  | 0 => .int
  | 1 => .int
  | 2 => .int
  | 3 => .array .int
  | 4 => .array .int
  | 5 => .array .boolean
  | 6 => .array .int
  | 7 => .array .int
  | 8 => .int
  | 9 => .array .int
  | 10 => .array .int
  | 11 => .array .boolean
  | 12 => .array .int
  | 13 => .array .boolean
  | 14 => .array .int
  | 15 => .array .int
  | 16 => .array .int
  | 17 => .array .boolean
  | 18 => .array .boolean
  | 19 => .array .int
  | 20 => .array .int
  | 21 => .array .int
  | 22 => .array .int
  | 23 => .array .int
  | 24 => .int
  | 25 => .array .int
  | 26 => .array .int
  | 27 => .array .int
  | 28 => .array .int
  | 29 => .array .int
  | 30 => .array .int
  | 31 => .array .int
  | 32 => .array .int
  | 33 => .array .int
  | 34 => .array .int
  | _ => .array .int
abbrev wsX60 : List Cond := u_ws RX6 TX6 36
theorem nmX6 : ∀ a, a < 36 → ∀ b, b < 36 → a ≠ b → (TX6 a).2.1 ≠ (TX6 b).2.1 := by decide +kernel
theorem tyX6_ok : ∀ k, k < 36 → parseFieldDescriptor (TX6 k).2.2.1 = some (tyX6 k) := by decide +kernel
abbrev cX6_init : ByteArray := prog_8_method_1_code
def yX6_init : MethodName := ⟨RX6, "<init>", "()V"⟩
abbrev cX6_isIn : ByteArray := prog_8_method_2_code
def yX6_isIn : MethodName := ⟨RX6, "isIn", "(III)Z"⟩
abbrev cX6_section : ByteArray := prog_8_method_3_code
def yX6_section : MethodName := ⟨RX6, "section", "(IIIZ)I"⟩
abbrev cX6_tide : ByteArray := prog_8_method_4_code
def yX6_tide : MethodName := ⟨RX6, "tide", "(II)I"⟩
abbrev cX6_wind : ByteArray := prog_8_method_5_code
def yX6_wind : MethodName := ⟨RX6, "wind", "(II)I"⟩
abbrev cX6_rule : ByteArray := prog_8_method_6_code
def yX6_rule : MethodName := ⟨RX6, "rule", "(II)I"⟩
abbrev cX6_ship : ByteArray := prog_8_method_7_code
def yX6_ship : MethodName := ⟨RX6, "ship", "(IIZIZI)I"⟩
abbrev cX6_convoy : ByteArray := prog_8_method_8_code
def yX6_convoy : MethodName := ⟨RX6, "convoy", "(II)I"⟩
abbrev cX6_book : ByteArray := prog_8_method_9_code
def yX6_book : MethodName := ⟨RX6, "book", "(II)I"⟩
abbrev cX6_ground : ByteArray := prog_8_method_10_code
def yX6_ground : MethodName := ⟨RX6, "ground", "(II)I"⟩
abbrev cX6_joins : ByteArray := prog_8_method_11_code
def yX6_joins : MethodName := ⟨RX6, "joins", "(I)V"⟩
abbrev cX6_starts : ByteArray := prog_8_method_12_code
def yX6_starts : MethodName := ⟨RX6, "starts", "()V"⟩
abbrev cX6_nextConvoy : ByteArray := prog_8_method_13_code
def yX6_nextConvoy : MethodName := ⟨RX6, "nextConvoy", "(I)I"⟩
abbrev cX6_lates : ByteArray := prog_8_method_14_code
def yX6_lates : MethodName := ⟨RX6, "lates", "()V"⟩
abbrev cX6_isAground : ByteArray := prog_8_method_15_code
def yX6_isAground : MethodName := ⟨RX6, "isAground", "(I)Z"⟩
abbrev cX6_isOncoming : ByteArray := prog_8_method_16_code
def yX6_isOncoming : MethodName := ⟨RX6, "isOncoming", "(II)Z"⟩
abbrev cX6_cause : ByteArray := prog_8_method_17_code
def yX6_cause : MethodName := ⟨RX6, "cause", "(II)I"⟩
abbrev cX6_enters : ByteArray := prog_8_method_18_code
def yX6_enters : MethodName := ⟨RX6, "enters", "(II)V"⟩
abbrev cX6_leaves : ByteArray := prog_8_method_19_code
def yX6_leaves : MethodName := ⟨RX6, "leaves", "(II)V"⟩
abbrev cX6_moves : ByteArray := prog_8_method_20_code
def yX6_moves : MethodName := ⟨RX6, "moves", "(II)V"⟩
abbrev cX6_goes : ByteArray := prog_8_method_21_code
def yX6_goes : MethodName := ⟨RX6, "goes", "(II)Z"⟩
abbrev cX6_comesIn : ByteArray := prog_8_method_22_code
def yX6_comesIn : MethodName := ⟨RX6, "comesIn", "(I)V"⟩
abbrev cX6_minutes : ByteArray := prog_8_method_23_code
def yX6_minutes : MethodName := ⟨RX6, "minutes", "(I)I"⟩
abbrev cX6_dues : ByteArray := prog_8_method_24_code
def yX6_dues : MethodName := ⟨RX6, "dues", "(I)I"⟩
abbrev cX6_told : ByteArray := prog_8_method_25_code
def yX6_told : MethodName := ⟨RX6, "told", "(II)I"⟩
abbrev cX6_waited : ByteArray := prog_8_method_26_code
def yX6_waited : MethodName := ⟨RX6, "waited", "(II)I"⟩
abbrev cX6_line : ByteArray := prog_8_method_27_code
def yX6_line : MethodName := ⟨RX6, "line", "(II)I"⟩
abbrev cX6_in : ByteArray := prog_8_method_28_code
def yX6_in : MethodName := ⟨RX6, "in", "(III)I"⟩
abbrev cX6_several : ByteArray := prog_8_method_29_code
def yX6_several : MethodName := ⟨RX6, "several", "()I"⟩
abbrev cX6_count : ByteArray := prog_8_method_30_code
def yX6_count : MethodName := ⟨RX6, "count", "(I)I"⟩
def RJ9 : String := "java/lang/Math"
def RL : String := "ShipCutLaw"
abbrev cL_law : ByteArray := code
def yL_law : MethodName := ⟨RL, "law", "([I)Z"⟩
abbrev vwCl : List vw_C := [(RX0, TX0, 4), (RX1, TX1, 2), (RX2, TX2, 2), (RX3, TX3, 6), (RX4, TX4, 16), (RX5, TX5, 11), (RX6, TX6, 36)]
/-- the tables' words that may be carried over a call -/
def TB : List Cond := lw_tbl.filter goodWord
theorem TB_mem {w : Cond} (h : w ∈ lw_tbl) (g : goodWord w = true) : w ∈ TB := List.mem_filter.mpr ⟨h, g⟩
theorem TB_sub {w : Cond} (h : w ∈ TB) : w ∈ lw_tbl := (List.mem_filter.mp h).1
theorem TB_good : GoodIn TB TB := fun w h => ⟨h, good_of_word (List.mem_filter.mp h).2⟩
def isNest : Cond → Bool
  | .fieldLinkNest .. => true
  | .methodLinkNest .. => true
  | _ => false
def NW : List Cond := lw_tbl.filter isNest
theorem NW_mem {w : Cond} (h : w ∈ lw_tbl) (g : isNest w = true) : w ∈ NW := List.mem_filter.mpr ⟨h, g⟩
/-- the table of a class's fields -/
def TT (ci k : Nat) : String × String × String × Bool := match ci with
  | 0 => TX0 k
  | 1 => TX1 k
  | 2 => TX2 k
  | 3 => TX3 k
  | 4 => TX4 k
  | 5 => TX5 k
  | _ => TX6 k
def tyT (ci k : Nat) : FieldType := match ci with
  | 0 => tyX0 k
  | 1 => tyX1 k
  | 2 => tyX2 k
  | 3 => tyX3 k
  | 4 => tyX4 k
  | 5 => tyX5 k
  | _ => tyX6 k
def FL (own : String) (idx ci k : Nat) : Prop := Cond.fieldLink own idx (TT ci k).1 (TT ci k).2.1 (TT ci k).2.2.1 ∈ TB
def FN (own : String) (idx ci k : Nat) : Prop := ∃ host : String, Cond.fieldLinkNest own idx (TT ci k).1 (TT ci k).2.1 (TT ci k).2.2.1 host ∈ NW
theorem ms_X5_sectionAt : Cond.selects RX5 yX5_sectionAt yX5_sectionAt ∈ TB := TB_mem (List.mem_of_getElem? (i := 0) (by decide +kernel)) rfl
theorem ms_X5_convoyAt : Cond.selects RX5 yX5_convoyAt yX5_convoyAt ∈ TB := TB_mem (List.mem_of_getElem? (i := 1) (by decide +kernel)) rfl
theorem ms_X5_startConvoys : Cond.selects RX5 yX5_startConvoys yX5_startConvoys ∈ TB := TB_mem (List.mem_of_getElem? (i := 2) (by decide +kernel)) rfl
theorem ms_X5_joinLine : Cond.selects RX5 yX5_joinLine yX5_joinLine ∈ TB := TB_mem (List.mem_of_getElem? (i := 3) (by decide +kernel)) rfl
theorem ms_X5_lineOf : Cond.selects RX5 yX5_lineOf yX5_lineOf ∈ TB := TB_mem (List.mem_of_getElem? (i := 4) (by decide +kernel)) rfl
theorem ms_X5_findLateShips : Cond.selects RX5 yX5_findLateShips yX5_findLateShips ∈ TB := TB_mem (List.mem_of_getElem? (i := 5) (by decide +kernel)) rfl
theorem ms_X5_missedConvoy : Cond.selects RX5 yX5_missedConvoy yX5_missedConvoy ∈ TB := TB_mem (List.mem_of_getElem? (i := 6) (by decide +kernel)) rfl
theorem ms_X5_takeLateShip : Cond.selects RX5 yX5_takeLateShip yX5_takeLateShip ∈ TB := TB_mem (List.mem_of_getElem? (i := 7) (by decide +kernel)) rfl
theorem ms_X5_nextConvoy : Cond.selects RX5 yX5_nextConvoy yX5_nextConvoy ∈ TB := TB_mem (List.mem_of_getElem? (i := 8) (by decide +kernel)) rfl
theorem ms_X5_moveShips : Cond.selects RX5 yX5_moveShips yX5_moveShips ∈ TB := TB_mem (List.mem_of_getElem? (i := 9) (by decide +kernel)) rfl
theorem ms_X5_moveWithin : Cond.selects RX5 yX5_moveWithin yX5_moveWithin ∈ TB := TB_mem (List.mem_of_getElem? (i := 10) (by decide +kernel)) rfl
theorem ms_X5_leaves : Cond.selects RX5 yX5_leaves yX5_leaves ∈ TB := TB_mem (List.mem_of_getElem? (i := 11) (by decide +kernel)) rfl
theorem ms_X5_causeAgainst : Cond.selects RX5 yX5_causeAgainst yX5_causeAgainst ∈ TB := TB_mem (List.mem_of_getElem? (i := 12) (by decide +kernel)) rfl
theorem ms_X5_reachesShip : Cond.selects RX5 yX5_reachesShip yX5_reachesShip ∈ TB := TB_mem (List.mem_of_getElem? (i := 13) (by decide +kernel)) rfl
theorem ms_X5_depthNow : Cond.selects RX5 yX5_depthNow yX5_depthNow ∈ TB := TB_mem (List.mem_of_getElem? (i := 14) (by decide +kernel)) rfl
theorem ms_X5_hourNow : Cond.selects RX5 yX5_hourNow yX5_hourNow ∈ TB := TB_mem (List.mem_of_getElem? (i := 15) (by decide +kernel)) rfl
theorem ms_X5_windBarsGreat : Cond.selects RX5 yX5_windBarsGreat yX5_windBarsGreat ∈ TB := TB_mem (List.mem_of_getElem? (i := 16) (by decide +kernel)) rfl
theorem ms_X5_comesInto : Cond.selects RX5 yX5_comesInto yX5_comesInto ∈ TB := TB_mem (List.mem_of_getElem? (i := 17) (by decide +kernel)) rfl
theorem ms_X5_letFirstIn : Cond.selects RX5 yX5_letFirstIn yX5_letFirstIn ∈ TB := TB_mem (List.mem_of_getElem? (i := 18) (by decide +kernel)) rfl
theorem ms_X5_shipsThat : Cond.selects RX5 yX5_shipsThat yX5_shipsThat ∈ TB := TB_mem (List.mem_of_getElem? (i := 19) (by decide +kernel)) rfl
theorem ms_X5_mostWaysInOneSection : Cond.selects RX5 yX5_mostWaysInOneSection yX5_mostWaysInOneSection ∈ TB := TB_mem (List.mem_of_getElem? (i := 20) (by decide +kernel)) rfl
theorem ms_X6_starts : Cond.selects RX6 yX6_starts yX6_starts ∈ TB := TB_mem (List.mem_of_getElem? (i := 21) (by decide +kernel)) rfl
theorem ms_X6_joins : Cond.selects RX6 yX6_joins yX6_joins ∈ TB := TB_mem (List.mem_of_getElem? (i := 22) (by decide +kernel)) rfl
theorem ms_X6_lates : Cond.selects RX6 yX6_lates yX6_lates ∈ TB := TB_mem (List.mem_of_getElem? (i := 23) (by decide +kernel)) rfl
theorem ms_X6_nextConvoy : Cond.selects RX6 yX6_nextConvoy yX6_nextConvoy ∈ TB := TB_mem (List.mem_of_getElem? (i := 24) (by decide +kernel)) rfl
theorem ms_X6_moves : Cond.selects RX6 yX6_moves yX6_moves ∈ TB := TB_mem (List.mem_of_getElem? (i := 25) (by decide +kernel)) rfl
theorem ms_X6_goes : Cond.selects RX6 yX6_goes yX6_goes ∈ TB := TB_mem (List.mem_of_getElem? (i := 26) (by decide +kernel)) rfl
theorem ms_X6_leaves : Cond.selects RX6 yX6_leaves yX6_leaves ∈ TB := TB_mem (List.mem_of_getElem? (i := 27) (by decide +kernel)) rfl
theorem ms_X6_cause : Cond.selects RX6 yX6_cause yX6_cause ∈ TB := TB_mem (List.mem_of_getElem? (i := 28) (by decide +kernel)) rfl
theorem ms_X6_isAground : Cond.selects RX6 yX6_isAground yX6_isAground ∈ TB := TB_mem (List.mem_of_getElem? (i := 29) (by decide +kernel)) rfl
theorem ms_X6_isOncoming : Cond.selects RX6 yX6_isOncoming yX6_isOncoming ∈ TB := TB_mem (List.mem_of_getElem? (i := 30) (by decide +kernel)) rfl
theorem ms_X6_enters : Cond.selects RX6 yX6_enters yX6_enters ∈ TB := TB_mem (List.mem_of_getElem? (i := 31) (by decide +kernel)) rfl
theorem ms_X6_comesIn : Cond.selects RX6 yX6_comesIn yX6_comesIn ∈ TB := TB_mem (List.mem_of_getElem? (i := 32) (by decide +kernel)) rfl
theorem ms_X6_dues : Cond.selects RX6 yX6_dues yX6_dues ∈ TB := TB_mem (List.mem_of_getElem? (i := 33) (by decide +kernel)) rfl
theorem ms_X6_several : Cond.selects RX6 yX6_several yX6_several ∈ TB := TB_mem (List.mem_of_getElem? (i := 34) (by decide +kernel)) rfl
theorem in_L : Cond.initialized RL ∈ TB := TB_mem (List.mem_of_getElem? (i := 35) (by decide +kernel)) rfl
theorem in_X5 : Cond.initialized RX5 ∈ TB := TB_mem (List.mem_of_getElem? (i := 36) (by decide +kernel)) rfl
theorem in_X2 : Cond.initialized RX2 ∈ TB := TB_mem (List.mem_of_getElem? (i := 37) (by decide +kernel)) rfl
theorem in_math : Cond.initialized "java/lang/Math" ∈ TB := TB_mem (List.mem_of_getElem? (i := 38) (by decide +kernel)) rfl
theorem in_X3 : Cond.initialized RX3 ∈ TB := TB_mem (List.mem_of_getElem? (i := 39) (by decide +kernel)) rfl
theorem in_X1 : Cond.initialized RX1 ∈ TB := TB_mem (List.mem_of_getElem? (i := 40) (by decide +kernel)) rfl
theorem in_X6 : Cond.initialized RX6 ∈ TB := TB_mem (List.mem_of_getElem? (i := 41) (by decide +kernel)) rfl
theorem in_X4 : Cond.initialized RX4 ∈ TB := TB_mem (List.mem_of_getElem? (i := 42) (by decide +kernel)) rfl
theorem in_X0 : Cond.initialized RX0 ∈ TB := TB_mem (List.mem_of_getElem? (i := 43) (by decide +kernel)) rfl
theorem clL_7 : Cond.classLink RL 7 RX5 ∈ TB := TB_mem (List.mem_of_getElem? (i := 44) (by decide +kernel)) rfl
theorem ci_X5 : Cond.instantiable RX5 11 ∈ TB := TB_mem (List.mem_of_getElem? (i := 45) (by decide +kernel)) rfl
theorem mlL_9 : Cond.methodLink RL 9 yX5_init ∈ TB := TB_mem (List.mem_of_getElem? (i := 46) (by decide +kernel)) rfl
theorem mi_X5_init : Cond.instanceMethod yX5_init ∈ TB := TB_mem (List.mem_of_getElem? (i := 47) (by decide +kernel)) rfl
set_option maxRecDepth 100000 in
theorem mc_X5_init : Cond.code yX5_init cX5_init 2 none ∈ TB := TB_mem (List.mem_of_getElem? (i := 48) (rfl)) rfl
theorem mlX5_3 : Cond.methodLink RX5 3 Lib.objectInit ∈ TB := TB_mem (List.mem_of_getElem? (i := 49) (by decide +kernel)) rfl
theorem mi_obj : Cond.instanceMethod Lib.objectInit ∈ TB := TB_mem (List.mem_of_getElem? (i := 50) (by decide +kernel)) rfl
theorem mc_obj : Cond.code Lib.objectInit ⟨#[0xb1]⟩ 1 none ∈ TB := TB_mem (List.mem_of_getElem? (i := 51) (rfl)) rfl
theorem clX5_9 : Cond.classLink RX5 9 RX3 ∈ TB := TB_mem (List.mem_of_getElem? (i := 52) (by decide +kernel)) rfl
theorem ao_X3 : Cond.arrayOver (.object RX3) ∈ lw_tbl := List.mem_of_getElem? (i := 53) (by decide +kernel)
theorem clX5_22 : Cond.classLink RX5 22 RX2 ∈ TB := TB_mem (List.mem_of_getElem? (i := 54) (by decide +kernel)) rfl
theorem ci_X2 : Cond.instantiable RX2 2 ∈ TB := TB_mem (List.mem_of_getElem? (i := 55) (by decide +kernel)) rfl
theorem mlX5_24 : Cond.methodLink RX5 24 yX2_init ∈ TB := TB_mem (List.mem_of_getElem? (i := 56) (by decide +kernel)) rfl
theorem mi_X2_init : Cond.instanceMethod yX2_init ∈ TB := TB_mem (List.mem_of_getElem? (i := 57) (by decide +kernel)) rfl
set_option maxRecDepth 100000 in
theorem mc_X2_init : Cond.code yX2_init cX2_init 2 none ∈ TB := TB_mem (List.mem_of_getElem? (i := 58) (rfl)) rfl
theorem mlX2_3 : Cond.methodLink RX2 3 Lib.objectInit ∈ TB := TB_mem (List.mem_of_getElem? (i := 59) (by decide +kernel)) rfl
theorem mlX2_15 : Cond.methodLink RX2 15 Lib.Math.max.name ∈ TB := TB_mem (List.mem_of_getElem? (i := 60) (by decide +kernel)) rfl
theorem mt_math_max : Cond.static Lib.Math.max.name ∈ TB := TB_mem (List.mem_of_getElem? (i := 61) (by decide +kernel)) rfl
theorem mc_math_max : Cond.code Lib.Math.max.name Lib.Math.max.code 2 (some .int) ∈ TB := TB_mem (List.mem_of_getElem? (i := 62) (by decide +kernel)) rfl
theorem clX2_21 : Cond.classLink RX2 21 RX4 ∈ TB := TB_mem (List.mem_of_getElem? (i := 63) (by decide +kernel)) rfl
theorem ao_X4 : Cond.arrayOver (.object RX4) ∈ lw_tbl := List.mem_of_getElem? (i := 64) (by decide +kernel)
theorem flX2_23 : FL RX2 23 2 0 := TB_mem (List.mem_of_getElem? (i := 65) (by decide +kernel)) rfl
theorem flX2_9 : FL RX2 9 2 1 := TB_mem (List.mem_of_getElem? (i := 66) (by decide +kernel)) rfl
theorem fnX3_39 : FN RX3 39 2 1 := ⟨"ShipCut", NW_mem (List.mem_of_getElem? (i := 67) (by decide +kernel)) rfl⟩
theorem fnX5_84 : FN RX5 84 2 1 := ⟨"ShipCut", NW_mem (List.mem_of_getElem? (i := 68) (by decide +kernel)) rfl⟩
theorem ac_int : Cond.arrayClass .int ∈ TB := TB_mem (List.mem_of_getElem? (i := 74) (by decide +kernel)) rfl
theorem clX5_31 : Cond.classLink RX5 31 RX0 ∈ TB := TB_mem (List.mem_of_getElem? (i := 75) (by decide +kernel)) rfl
theorem ao_X0 : Cond.arrayOver (.object RX0) ∈ lw_tbl := List.mem_of_getElem? (i := 76) (by decide +kernel)
theorem ci_X3 : Cond.instantiable RX3 6 ∈ TB := TB_mem (List.mem_of_getElem? (i := 77) (by decide +kernel)) rfl
theorem mlX5_56 : Cond.methodLink RX5 56 yX3_init ∈ TB := TB_mem (List.mem_of_getElem? (i := 78) (by decide +kernel)) rfl
theorem mi_X3_init : Cond.instanceMethod yX3_init ∈ TB := TB_mem (List.mem_of_getElem? (i := 79) (by decide +kernel)) rfl
set_option maxRecDepth 100000 in
theorem mc_X3_init : Cond.code yX3_init cX3_init 2 none ∈ TB := TB_mem (List.mem_of_getElem? (i := 80) (rfl)) rfl
theorem mlX3_3 : Cond.methodLink RX3 3 Lib.objectInit ∈ TB := TB_mem (List.mem_of_getElem? (i := 81) (by decide +kernel)) rfl
theorem clX3_22 : Cond.classLink RX3 22 RX1 ∈ TB := TB_mem (List.mem_of_getElem? (i := 82) (by decide +kernel)) rfl
theorem ci_X1 : Cond.instantiable RX1 2 ∈ TB := TB_mem (List.mem_of_getElem? (i := 83) (by decide +kernel)) rfl
theorem mnX3_24 : Cond.methodLinkNest RX3 24 yX1_init "ShipCut" ∈ NW := NW_mem (List.mem_of_getElem? (i := 84) (by decide +kernel)) rfl
theorem mi_X1_init : Cond.instanceMethod yX1_init ∈ TB := TB_mem (List.mem_of_getElem? (i := 85) (by decide +kernel)) rfl
set_option maxRecDepth 100000 in
theorem mc_X1_init : Cond.code yX1_init cX1_init 1 none ∈ TB := TB_mem (List.mem_of_getElem? (i := 86) (rfl)) rfl
theorem mlX1_3 : Cond.methodLink RX1 3 Lib.objectInit ∈ TB := TB_mem (List.mem_of_getElem? (i := 87) (by decide +kernel)) rfl
theorem clX1_9 : Cond.classLink RX1 9 RX2 ∈ TB := TB_mem (List.mem_of_getElem? (i := 88) (by decide +kernel)) rfl
theorem mlX1_11 : Cond.methodLink RX1 11 yX2_init ∈ TB := TB_mem (List.mem_of_getElem? (i := 89) (by decide +kernel)) rfl
theorem flX1_14 : FL RX1 14 1 0 := TB_mem (List.mem_of_getElem? (i := 90) (by decide +kernel)) rfl
theorem fnX3_35 : FN RX3 35 1 0 := ⟨"ShipCut", NW_mem (List.mem_of_getElem? (i := 91) (by decide +kernel)) rfl⟩
theorem fnX5_176 : FN RX5 176 1 0 := ⟨"ShipCut", NW_mem (List.mem_of_getElem? (i := 92) (by decide +kernel)) rfl⟩
theorem flX1_20 : FL RX1 20 1 1 := TB_mem (List.mem_of_getElem? (i := 93) (by decide +kernel)) rfl
theorem fnX5_216 : FN RX5 216 1 1 := ⟨"ShipCut", NW_mem (List.mem_of_getElem? (i := 94) (by decide +kernel)) rfl⟩
theorem flX3_32 : FL RX3 32 3 0 := TB_mem (List.mem_of_getElem? (i := 100) (by decide +kernel)) rfl
theorem fnX5_196 : FN RX5 196 3 0 := ⟨"ShipCut", NW_mem (List.mem_of_getElem? (i := 101) (by decide +kernel)) rfl⟩
theorem flX3_9 : FL RX3 9 3 1 := TB_mem (List.mem_of_getElem? (i := 102) (by decide +kernel)) rfl
theorem fnX5_65 : FN RX5 65 3 1 := ⟨"ShipCut", NW_mem (List.mem_of_getElem? (i := 103) (by decide +kernel)) rfl⟩
theorem flX3_15 : FL RX3 15 3 2 := TB_mem (List.mem_of_getElem? (i := 104) (by decide +kernel)) rfl
theorem fnX5_68 : FN RX5 68 3 2 := ⟨"ShipCut", NW_mem (List.mem_of_getElem? (i := 105) (by decide +kernel)) rfl⟩
theorem flX3_18 : FL RX3 18 3 3 := TB_mem (List.mem_of_getElem? (i := 106) (by decide +kernel)) rfl
theorem fnX5_71 : FN RX5 71 3 3 := ⟨"ShipCut", NW_mem (List.mem_of_getElem? (i := 107) (by decide +kernel)) rfl⟩
theorem flX3_25 : FL RX3 25 3 4 := TB_mem (List.mem_of_getElem? (i := 108) (by decide +kernel)) rfl
theorem fnX5_222 : FN RX5 222 3 4 := ⟨"ShipCut", NW_mem (List.mem_of_getElem? (i := 109) (by decide +kernel)) rfl⟩
theorem flX3_29 : FL RX3 29 3 5 := TB_mem (List.mem_of_getElem? (i := 110) (by decide +kernel)) rfl
theorem fnX5_229 : FN RX5 229 3 5 := ⟨"ShipCut", NW_mem (List.mem_of_getElem? (i := 111) (by decide +kernel)) rfl⟩
theorem flX5_11 : FL RX5 11 5 0 := TB_mem (List.mem_of_getElem? (i := 125) (by decide +kernel)) rfl
theorem flX5_15 : FL RX5 15 5 1 := TB_mem (List.mem_of_getElem? (i := 126) (by decide +kernel)) rfl
theorem flX5_19 : FL RX5 19 5 2 := TB_mem (List.mem_of_getElem? (i := 127) (by decide +kernel)) rfl
theorem flX5_27 : FL RX5 27 5 3 := TB_mem (List.mem_of_getElem? (i := 128) (by decide +kernel)) rfl
theorem flX5_33 : FL RX5 33 5 4 := TB_mem (List.mem_of_getElem? (i := 129) (by decide +kernel)) rfl
theorem flX5_37 : FL RX5 37 5 5 := TB_mem (List.mem_of_getElem? (i := 130) (by decide +kernel)) rfl
theorem flX5_41 : FL RX5 41 5 6 := TB_mem (List.mem_of_getElem? (i := 131) (by decide +kernel)) rfl
theorem flX5_44 : FL RX5 44 5 7 := TB_mem (List.mem_of_getElem? (i := 132) (by decide +kernel)) rfl
theorem flX5_47 : FL RX5 47 5 8 := TB_mem (List.mem_of_getElem? (i := 133) (by decide +kernel)) rfl
theorem flX5_50 : FL RX5 50 5 9 := TB_mem (List.mem_of_getElem? (i := 134) (by decide +kernel)) rfl
theorem flX5_53 : FL RX5 53 5 10 := TB_mem (List.mem_of_getElem? (i := 135) (by decide +kernel)) rfl
theorem mlL_13 : Cond.methodLink RL 13 yX5_section ∈ TB := TB_mem (List.mem_of_getElem? (i := 159) (by decide +kernel)) rfl
theorem mi_X5_section : Cond.instanceMethod yX5_section ∈ TB := TB_mem (List.mem_of_getElem? (i := 160) (by decide +kernel)) rfl
theorem ms_X5_section : Cond.selects RX5 yX5_section yX5_section ∈ TB := TB_mem (List.mem_of_getElem? (i := 161) (by decide +kernel)) rfl
set_option maxRecDepth 100000 in
theorem mc_X5_section : Cond.code yX5_section cX5_section 6 (some .int) ∈ TB := TB_mem (List.mem_of_getElem? (i := 162) (rfl)) rfl
theorem mlX5_57 : Cond.methodLink RX5 57 yX5_sectionAt ∈ TB := TB_mem (List.mem_of_getElem? (i := 163) (by decide +kernel)) rfl
theorem mi_X5_sectionAt : Cond.instanceMethod yX5_sectionAt ∈ TB := TB_mem (List.mem_of_getElem? (i := 165) (by decide +kernel)) rfl
set_option maxRecDepth 100000 in
theorem mc_X5_sectionAt : Cond.code yX5_sectionAt cX5_sectionAt 2 (some (.object "ShipCut$Section")) ∈ TB := TB_mem (List.mem_of_getElem? (i := 166) (rfl)) rfl
theorem mlX5_61 : Cond.methodLink RX5 61 yX5_within ∈ TB := TB_mem (List.mem_of_getElem? (i := 167) (by decide +kernel)) rfl
theorem mt_X5_within : Cond.static yX5_within ∈ TB := TB_mem (List.mem_of_getElem? (i := 168) (by decide +kernel)) rfl
set_option maxRecDepth 100000 in
theorem mc_X5_within : Cond.code yX5_within cX5_within 3 (some .boolean) ∈ TB := TB_mem (List.mem_of_getElem? (i := 169) (rfl)) rfl
theorem mlL_18 : Cond.methodLink RL 18 yX5_tide ∈ TB := TB_mem (List.mem_of_getElem? (i := 170) (by decide +kernel)) rfl
theorem mi_X5_tide : Cond.instanceMethod yX5_tide ∈ TB := TB_mem (List.mem_of_getElem? (i := 171) (by decide +kernel)) rfl
theorem ms_X5_tide : Cond.selects RX5 yX5_tide yX5_tide ∈ TB := TB_mem (List.mem_of_getElem? (i := 172) (by decide +kernel)) rfl
set_option maxRecDepth 100000 in
theorem mc_X5_tide : Cond.code yX5_tide cX5_tide 4 (some .int) ∈ TB := TB_mem (List.mem_of_getElem? (i := 173) (rfl)) rfl
theorem mlL_23 : Cond.methodLink RL 23 yX5_wind ∈ TB := TB_mem (List.mem_of_getElem? (i := 174) (by decide +kernel)) rfl
theorem mi_X5_wind : Cond.instanceMethod yX5_wind ∈ TB := TB_mem (List.mem_of_getElem? (i := 175) (by decide +kernel)) rfl
theorem ms_X5_wind : Cond.selects RX5 yX5_wind yX5_wind ∈ TB := TB_mem (List.mem_of_getElem? (i := 176) (by decide +kernel)) rfl
set_option maxRecDepth 100000 in
theorem mc_X5_wind : Cond.code yX5_wind cX5_wind 4 (some .int) ∈ TB := TB_mem (List.mem_of_getElem? (i := 177) (rfl)) rfl
theorem mlL_27 : Cond.methodLink RL 27 yX5_rule ∈ TB := TB_mem (List.mem_of_getElem? (i := 178) (by decide +kernel)) rfl
theorem mi_X5_rule : Cond.instanceMethod yX5_rule ∈ TB := TB_mem (List.mem_of_getElem? (i := 179) (by decide +kernel)) rfl
theorem ms_X5_rule : Cond.selects RX5 yX5_rule yX5_rule ∈ TB := TB_mem (List.mem_of_getElem? (i := 180) (by decide +kernel)) rfl
set_option maxRecDepth 100000 in
theorem mc_X5_rule : Cond.code yX5_rule cX5_rule 4 (some .int) ∈ TB := TB_mem (List.mem_of_getElem? (i := 181) (rfl)) rfl
theorem mlL_31 : Cond.methodLink RL 31 yX5_ship ∈ TB := TB_mem (List.mem_of_getElem? (i := 182) (by decide +kernel)) rfl
theorem mi_X5_ship : Cond.instanceMethod yX5_ship ∈ TB := TB_mem (List.mem_of_getElem? (i := 183) (by decide +kernel)) rfl
theorem ms_X5_ship : Cond.selects RX5 yX5_ship yX5_ship ∈ TB := TB_mem (List.mem_of_getElem? (i := 184) (by decide +kernel)) rfl
set_option maxRecDepth 100000 in
theorem mc_X5_ship : Cond.code yX5_ship cX5_ship 8 (some .int) ∈ TB := TB_mem (List.mem_of_getElem? (i := 185) (rfl)) rfl
theorem mlX5_75 : Cond.methodLink RX5 75 yX5_isWay ∈ TB := TB_mem (List.mem_of_getElem? (i := 186) (by decide +kernel)) rfl
theorem mt_X5_isWay : Cond.static yX5_isWay ∈ TB := TB_mem (List.mem_of_getElem? (i := 187) (by decide +kernel)) rfl
set_option maxRecDepth 100000 in
theorem mc_X5_isWay : Cond.code yX5_isWay cX5_isWay 1 (some .boolean) ∈ TB := TB_mem (List.mem_of_getElem? (i := 188) (rfl)) rfl
theorem ctX5_79 : Cond.constant RX5 79 (200000) ∈ TB := TB_mem (List.mem_of_getElem? (i := 189) (by decide +kernel)) rfl
theorem mlX5_80 : Cond.methodLink RX5 80 yX2_isFull ∈ TB := TB_mem (List.mem_of_getElem? (i := 190) (by decide +kernel)) rfl
theorem mi_X2_isFull : Cond.instanceMethod yX2_isFull ∈ TB := TB_mem (List.mem_of_getElem? (i := 191) (by decide +kernel)) rfl
theorem ms_X2_isFull : Cond.selects RX2 yX2_isFull yX2_isFull ∈ TB := TB_mem (List.mem_of_getElem? (i := 192) (by decide +kernel)) rfl
set_option maxRecDepth 100000 in
theorem mc_X2_isFull : Cond.code yX2_isFull cX2_isFull 1 (some .boolean) ∈ TB := TB_mem (List.mem_of_getElem? (i := 193) (rfl)) rfl
theorem clX5_87 : Cond.classLink RX5 87 RX4 ∈ TB := TB_mem (List.mem_of_getElem? (i := 194) (by decide +kernel)) rfl
theorem ci_X4 : Cond.instantiable RX4 16 ∈ TB := TB_mem (List.mem_of_getElem? (i := 195) (by decide +kernel)) rfl
theorem mlX5_89 : Cond.methodLink RX5 89 yX4_init ∈ TB := TB_mem (List.mem_of_getElem? (i := 196) (by decide +kernel)) rfl
theorem mi_X4_init : Cond.instanceMethod yX4_init ∈ TB := TB_mem (List.mem_of_getElem? (i := 197) (by decide +kernel)) rfl
set_option maxRecDepth 100000 in
theorem mc_X4_init : Cond.code yX4_init cX4_init 8 none ∈ TB := TB_mem (List.mem_of_getElem? (i := 198) (rfl)) rfl
theorem mlX4_3 : Cond.methodLink RX4 3 Lib.objectInit ∈ TB := TB_mem (List.mem_of_getElem? (i := 199) (by decide +kernel)) rfl
theorem flX4_41 : FL RX4 41 4 0 := TB_mem (List.mem_of_getElem? (i := 200) (by decide +kernel)) rfl
theorem fnX2_31 : FN RX2 31 4 0 := ⟨"ShipCut", NW_mem (List.mem_of_getElem? (i := 201) (by decide +kernel)) rfl⟩
theorem flX4_44 : FL RX4 44 4 1 := TB_mem (List.mem_of_getElem? (i := 202) (by decide +kernel)) rfl
theorem fnX5_110 : FN RX5 110 4 1 := ⟨"ShipCut", NW_mem (List.mem_of_getElem? (i := 203) (by decide +kernel)) rfl⟩
theorem flX4_47 : FL RX4 47 4 2 := TB_mem (List.mem_of_getElem? (i := 204) (by decide +kernel)) rfl
theorem fnX5_117 : FN RX5 117 4 2 := ⟨"ShipCut", NW_mem (List.mem_of_getElem? (i := 205) (by decide +kernel)) rfl⟩
theorem flX4_50 : FL RX4 50 4 3 := TB_mem (List.mem_of_getElem? (i := 206) (by decide +kernel)) rfl
theorem fnX5_242 : FN RX5 242 4 3 := ⟨"ShipCut", NW_mem (List.mem_of_getElem? (i := 207) (by decide +kernel)) rfl⟩
theorem flX4_53 : FL RX4 53 4 4 := TB_mem (List.mem_of_getElem? (i := 208) (by decide +kernel)) rfl
theorem fnX5_235 : FN RX5 235 4 4 := ⟨"ShipCut", NW_mem (List.mem_of_getElem? (i := 209) (by decide +kernel)) rfl⟩
theorem flX4_56 : FL RX4 56 4 5 := TB_mem (List.mem_of_getElem? (i := 210) (by decide +kernel)) rfl
theorem fnX5_219 : FN RX5 219 4 5 := ⟨"ShipCut", NW_mem (List.mem_of_getElem? (i := 211) (by decide +kernel)) rfl⟩
theorem flX4_59 : FL RX4 59 4 6 := TB_mem (List.mem_of_getElem? (i := 212) (by decide +kernel)) rfl
theorem flX4_9 : FL RX4 9 4 7 := TB_mem (List.mem_of_getElem? (i := 213) (by decide +kernel)) rfl
theorem fnX5_258 : FN RX5 258 4 7 := ⟨"ShipCut", NW_mem (List.mem_of_getElem? (i := 214) (by decide +kernel)) rfl⟩
theorem flX4_15 : FL RX4 15 4 8 := TB_mem (List.mem_of_getElem? (i := 215) (by decide +kernel)) rfl
theorem fnX5_199 : FN RX5 199 4 8 := ⟨"ShipCut", NW_mem (List.mem_of_getElem? (i := 216) (by decide +kernel)) rfl⟩
theorem flX4_19 : FL RX4 19 4 9 := TB_mem (List.mem_of_getElem? (i := 217) (by decide +kernel)) rfl
theorem fnX5_193 : FN RX5 193 4 9 := ⟨"ShipCut", NW_mem (List.mem_of_getElem? (i := 218) (by decide +kernel)) rfl⟩
theorem flX4_22 : FL RX4 22 4 10 := TB_mem (List.mem_of_getElem? (i := 219) (by decide +kernel)) rfl
theorem fnX5_162 : FN RX5 162 4 10 := ⟨"ShipCut", NW_mem (List.mem_of_getElem? (i := 220) (by decide +kernel)) rfl⟩
theorem flX4_26 : FL RX4 26 4 11 := TB_mem (List.mem_of_getElem? (i := 221) (by decide +kernel)) rfl
theorem fnX5_169 : FN RX5 169 4 11 := ⟨"ShipCut", NW_mem (List.mem_of_getElem? (i := 222) (by decide +kernel)) rfl⟩
theorem flX4_29 : FL RX4 29 4 12 := TB_mem (List.mem_of_getElem? (i := 223) (by decide +kernel)) rfl
theorem fnX5_213 : FN RX5 213 4 12 := ⟨"ShipCut", NW_mem (List.mem_of_getElem? (i := 224) (by decide +kernel)) rfl⟩
theorem flX4_32 : FL RX4 32 4 13 := TB_mem (List.mem_of_getElem? (i := 225) (by decide +kernel)) rfl
theorem fnX5_202 : FN RX5 202 4 13 := ⟨"ShipCut", NW_mem (List.mem_of_getElem? (i := 226) (by decide +kernel)) rfl⟩
theorem flX4_35 : FL RX4 35 4 14 := TB_mem (List.mem_of_getElem? (i := 227) (by decide +kernel)) rfl
theorem fnX5_111 : FN RX5 111 4 14 := ⟨"ShipCut", NW_mem (List.mem_of_getElem? (i := 228) (by decide +kernel)) rfl⟩
theorem flX4_38 : FL RX4 38 4 15 := TB_mem (List.mem_of_getElem? (i := 229) (by decide +kernel)) rfl
theorem fnX5_129 : FN RX5 129 4 15 := ⟨"ShipCut", NW_mem (List.mem_of_getElem? (i := 230) (by decide +kernel)) rfl⟩
theorem mlX5_92 : Cond.methodLink RX5 92 yX2_add ∈ TB := TB_mem (List.mem_of_getElem? (i := 264) (by decide +kernel)) rfl
theorem mi_X2_add : Cond.instanceMethod yX2_add ∈ TB := TB_mem (List.mem_of_getElem? (i := 265) (by decide +kernel)) rfl
theorem ms_X2_add : Cond.selects RX2 yX2_add yX2_add ∈ TB := TB_mem (List.mem_of_getElem? (i := 266) (by decide +kernel)) rfl
set_option maxRecDepth 100000 in
theorem mc_X2_add : Cond.code yX2_add cX2_add 2 none ∈ TB := TB_mem (List.mem_of_getElem? (i := 267) (rfl)) rfl
theorem mlL_36 : Cond.methodLink RL 36 yX5_convoy ∈ TB := TB_mem (List.mem_of_getElem? (i := 268) (by decide +kernel)) rfl
theorem mi_X5_convoy : Cond.instanceMethod yX5_convoy ∈ TB := TB_mem (List.mem_of_getElem? (i := 269) (by decide +kernel)) rfl
theorem ms_X5_convoy : Cond.selects RX5 yX5_convoy yX5_convoy ∈ TB := TB_mem (List.mem_of_getElem? (i := 270) (by decide +kernel)) rfl
set_option maxRecDepth 100000 in
theorem mc_X5_convoy : Cond.code yX5_convoy cX5_convoy 3 (some .int) ∈ TB := TB_mem (List.mem_of_getElem? (i := 271) (rfl)) rfl
theorem ci_X0 : Cond.instantiable RX0 4 ∈ TB := TB_mem (List.mem_of_getElem? (i := 272) (by decide +kernel)) rfl
theorem mlX5_96 : Cond.methodLink RX5 96 yX0_init ∈ TB := TB_mem (List.mem_of_getElem? (i := 273) (by decide +kernel)) rfl
theorem mi_X0_init : Cond.instanceMethod yX0_init ∈ TB := TB_mem (List.mem_of_getElem? (i := 274) (by decide +kernel)) rfl
set_option maxRecDepth 100000 in
theorem mc_X0_init : Cond.code yX0_init cX0_init 3 none ∈ TB := TB_mem (List.mem_of_getElem? (i := 275) (rfl)) rfl
theorem mlX0_3 : Cond.methodLink RX0 3 Lib.objectInit ∈ TB := TB_mem (List.mem_of_getElem? (i := 276) (by decide +kernel)) rfl
theorem clX0_9 : Cond.classLink RX0 9 RX2 ∈ TB := TB_mem (List.mem_of_getElem? (i := 277) (by decide +kernel)) rfl
theorem mlX0_11 : Cond.methodLink RX0 11 yX2_init ∈ TB := TB_mem (List.mem_of_getElem? (i := 278) (by decide +kernel)) rfl
theorem flX0_23 : FL RX0 23 0 0 := TB_mem (List.mem_of_getElem? (i := 279) (by decide +kernel)) rfl
theorem fnX5_107 : FN RX5 107 0 0 := ⟨"ShipCut", NW_mem (List.mem_of_getElem? (i := 280) (by decide +kernel)) rfl⟩
theorem flX0_27 : FL RX0 27 0 1 := TB_mem (List.mem_of_getElem? (i := 281) (by decide +kernel)) rfl
theorem fnX5_114 : FN RX5 114 0 1 := ⟨"ShipCut", NW_mem (List.mem_of_getElem? (i := 282) (by decide +kernel)) rfl⟩
theorem flX0_14 : FL RX0 14 0 2 := TB_mem (List.mem_of_getElem? (i := 283) (by decide +kernel)) rfl
theorem fnX5_120 : FN RX5 120 0 2 := ⟨"ShipCut", NW_mem (List.mem_of_getElem? (i := 284) (by decide +kernel)) rfl⟩
theorem flX0_20 : FL RX0 20 0 3 := TB_mem (List.mem_of_getElem? (i := 285) (by decide +kernel)) rfl
theorem fnX5_148 : FN RX5 148 0 3 := ⟨"ShipCut", NW_mem (List.mem_of_getElem? (i := 286) (by decide +kernel)) rfl⟩
theorem mlL_40 : Cond.methodLink RL 40 yX5_book ∈ TB := TB_mem (List.mem_of_getElem? (i := 296) (by decide +kernel)) rfl
theorem mi_X5_book : Cond.instanceMethod yX5_book ∈ TB := TB_mem (List.mem_of_getElem? (i := 297) (by decide +kernel)) rfl
theorem ms_X5_book : Cond.selects RX5 yX5_book yX5_book ∈ TB := TB_mem (List.mem_of_getElem? (i := 298) (by decide +kernel)) rfl
set_option maxRecDepth 100000 in
theorem mc_X5_book : Cond.code yX5_book cX5_book 5 (some .int) ∈ TB := TB_mem (List.mem_of_getElem? (i := 299) (rfl)) rfl
theorem mlX5_99 : Cond.methodLink RX5 99 yX5_convoyAt ∈ TB := TB_mem (List.mem_of_getElem? (i := 300) (by decide +kernel)) rfl
theorem mi_X5_convoyAt : Cond.instanceMethod yX5_convoyAt ∈ TB := TB_mem (List.mem_of_getElem? (i := 302) (by decide +kernel)) rfl
set_option maxRecDepth 100000 in
theorem mc_X5_convoyAt : Cond.code yX5_convoyAt cX5_convoyAt 2 (some (.object "ShipCut$Convoy")) ∈ TB := TB_mem (List.mem_of_getElem? (i := 303) (rfl)) rfl
theorem mlX5_103 : Cond.methodLink RX5 103 yX2_at ∈ TB := TB_mem (List.mem_of_getElem? (i := 304) (by decide +kernel)) rfl
theorem mi_X2_at : Cond.instanceMethod yX2_at ∈ TB := TB_mem (List.mem_of_getElem? (i := 305) (by decide +kernel)) rfl
theorem ms_X2_at : Cond.selects RX2 yX2_at yX2_at ∈ TB := TB_mem (List.mem_of_getElem? (i := 306) (by decide +kernel)) rfl
set_option maxRecDepth 100000 in
theorem mc_X2_at : Cond.code yX2_at cX2_at 2 (some (.object "ShipCut$Ship")) ∈ TB := TB_mem (List.mem_of_getElem? (i := 307) (rfl)) rfl
theorem mlL_44 : Cond.methodLink RL 44 yX5_ground ∈ TB := TB_mem (List.mem_of_getElem? (i := 308) (by decide +kernel)) rfl
theorem mi_X5_ground : Cond.instanceMethod yX5_ground ∈ TB := TB_mem (List.mem_of_getElem? (i := 309) (by decide +kernel)) rfl
theorem ms_X5_ground : Cond.selects RX5 yX5_ground yX5_ground ∈ TB := TB_mem (List.mem_of_getElem? (i := 310) (by decide +kernel)) rfl
set_option maxRecDepth 100000 in
theorem mc_X5_ground : Cond.code yX5_ground cX5_ground 4 (some .int) ∈ TB := TB_mem (List.mem_of_getElem? (i := 311) (rfl)) rfl
theorem mlX5_123 : Cond.methodLink RX5 123 yX4_isInSection ∈ TB := TB_mem (List.mem_of_getElem? (i := 312) (by decide +kernel)) rfl
theorem mi_X4_isInSection : Cond.instanceMethod yX4_isInSection ∈ TB := TB_mem (List.mem_of_getElem? (i := 313) (by decide +kernel)) rfl
theorem ms_X4_isInSection : Cond.selects RX4 yX4_isInSection yX4_isInSection ∈ TB := TB_mem (List.mem_of_getElem? (i := 314) (by decide +kernel)) rfl
set_option maxRecDepth 100000 in
theorem mc_X4_isInSection : Cond.code yX4_isInSection cX4_isInSection 1 (some .boolean) ∈ TB := TB_mem (List.mem_of_getElem? (i := 315) (rfl)) rfl
theorem mlX5_126 : Cond.methodLink RX5 126 yX4_isAground ∈ TB := TB_mem (List.mem_of_getElem? (i := 316) (by decide +kernel)) rfl
theorem mi_X4_isAground : Cond.instanceMethod yX4_isAground ∈ TB := TB_mem (List.mem_of_getElem? (i := 317) (by decide +kernel)) rfl
theorem ms_X4_isAground : Cond.selects RX4 yX4_isAground yX4_isAground ∈ TB := TB_mem (List.mem_of_getElem? (i := 318) (by decide +kernel)) rfl
set_option maxRecDepth 100000 in
theorem mc_X4_isAground : Cond.code yX4_isAground cX4_isAground 2 (some .boolean) ∈ TB := TB_mem (List.mem_of_getElem? (i := 319) (rfl)) rfl
theorem mlL_48 : Cond.methodLink RL 48 yX5_minutes ∈ TB := TB_mem (List.mem_of_getElem? (i := 320) (by decide +kernel)) rfl
theorem mi_X5_minutes : Cond.instanceMethod yX5_minutes ∈ TB := TB_mem (List.mem_of_getElem? (i := 321) (by decide +kernel)) rfl
theorem ms_X5_minutes : Cond.selects RX5 yX5_minutes yX5_minutes ∈ TB := TB_mem (List.mem_of_getElem? (i := 322) (by decide +kernel)) rfl
set_option maxRecDepth 100000 in
theorem mc_X5_minutes : Cond.code yX5_minutes cX5_minutes 3 (some .int) ∈ TB := TB_mem (List.mem_of_getElem? (i := 323) (rfl)) rfl
theorem mlX5_132 : Cond.methodLink RX5 132 yX5_startConvoys ∈ TB := TB_mem (List.mem_of_getElem? (i := 324) (by decide +kernel)) rfl
theorem mi_X5_startConvoys : Cond.instanceMethod yX5_startConvoys ∈ TB := TB_mem (List.mem_of_getElem? (i := 326) (by decide +kernel)) rfl
set_option maxRecDepth 100000 in
theorem mc_X5_startConvoys : Cond.code yX5_startConvoys cX5_startConvoys 3 none ∈ TB := TB_mem (List.mem_of_getElem? (i := 327) (rfl)) rfl
theorem mlX5_144 : Cond.methodLink RX5 144 yX5_joinLine ∈ TB := TB_mem (List.mem_of_getElem? (i := 328) (by decide +kernel)) rfl
theorem mi_X5_joinLine : Cond.instanceMethod yX5_joinLine ∈ TB := TB_mem (List.mem_of_getElem? (i := 330) (by decide +kernel)) rfl
set_option maxRecDepth 100000 in
theorem mc_X5_joinLine : Cond.code yX5_joinLine cX5_joinLine 4 none ∈ TB := TB_mem (List.mem_of_getElem? (i := 331) (rfl)) rfl
theorem mlX5_151 : Cond.methodLink RX5 151 yX5_lineOf ∈ TB := TB_mem (List.mem_of_getElem? (i := 332) (by decide +kernel)) rfl
theorem mi_X5_lineOf : Cond.instanceMethod yX5_lineOf ∈ TB := TB_mem (List.mem_of_getElem? (i := 334) (by decide +kernel)) rfl
set_option maxRecDepth 100000 in
theorem mc_X5_lineOf : Cond.code yX5_lineOf cX5_lineOf 2 (some (.object "ShipCut$Row")) ∈ TB := TB_mem (List.mem_of_getElem? (i := 335) (rfl)) rfl
theorem mlX5_135 : Cond.methodLink RX5 135 yX5_findLateShips ∈ TB := TB_mem (List.mem_of_getElem? (i := 336) (by decide +kernel)) rfl
theorem mi_X5_findLateShips : Cond.instanceMethod yX5_findLateShips ∈ TB := TB_mem (List.mem_of_getElem? (i := 338) (by decide +kernel)) rfl
set_option maxRecDepth 100000 in
theorem mc_X5_findLateShips : Cond.code yX5_findLateShips cX5_findLateShips 3 none ∈ TB := TB_mem (List.mem_of_getElem? (i := 339) (rfl)) rfl
theorem mlX5_155 : Cond.methodLink RX5 155 yX5_missedConvoy ∈ TB := TB_mem (List.mem_of_getElem? (i := 340) (by decide +kernel)) rfl
theorem mi_X5_missedConvoy : Cond.instanceMethod yX5_missedConvoy ∈ TB := TB_mem (List.mem_of_getElem? (i := 342) (by decide +kernel)) rfl
set_option maxRecDepth 100000 in
theorem mc_X5_missedConvoy : Cond.code yX5_missedConvoy cX5_missedConvoy 3 (some .boolean) ∈ TB := TB_mem (List.mem_of_getElem? (i := 343) (rfl)) rfl
theorem mlX5_159 : Cond.methodLink RX5 159 yX5_takeLateShip ∈ TB := TB_mem (List.mem_of_getElem? (i := 344) (by decide +kernel)) rfl
theorem mi_X5_takeLateShip : Cond.instanceMethod yX5_takeLateShip ∈ TB := TB_mem (List.mem_of_getElem? (i := 346) (by decide +kernel)) rfl
set_option maxRecDepth 100000 in
theorem mc_X5_takeLateShip : Cond.code yX5_takeLateShip cX5_takeLateShip 4 none ∈ TB := TB_mem (List.mem_of_getElem? (i := 347) (rfl)) rfl
theorem mlX5_165 : Cond.methodLink RX5 165 yX5_nextConvoy ∈ TB := TB_mem (List.mem_of_getElem? (i := 348) (by decide +kernel)) rfl
theorem mi_X5_nextConvoy : Cond.instanceMethod yX5_nextConvoy ∈ TB := TB_mem (List.mem_of_getElem? (i := 350) (by decide +kernel)) rfl
set_option maxRecDepth 100000 in
theorem mc_X5_nextConvoy : Cond.code yX5_nextConvoy cX5_nextConvoy 6 (some .int) ∈ TB := TB_mem (List.mem_of_getElem? (i := 351) (rfl)) rfl
theorem mlX5_138 : Cond.methodLink RX5 138 yX5_moveShips ∈ TB := TB_mem (List.mem_of_getElem? (i := 352) (by decide +kernel)) rfl
theorem mi_X5_moveShips : Cond.instanceMethod yX5_moveShips ∈ TB := TB_mem (List.mem_of_getElem? (i := 354) (by decide +kernel)) rfl
set_option maxRecDepth 100000 in
theorem mc_X5_moveShips : Cond.code yX5_moveShips cX5_moveShips 4 none ∈ TB := TB_mem (List.mem_of_getElem? (i := 355) (rfl)) rfl
theorem mlX5_172 : Cond.methodLink RX5 172 yX3_lane ∈ TB := TB_mem (List.mem_of_getElem? (i := 356) (by decide +kernel)) rfl
theorem mi_X3_lane : Cond.instanceMethod yX3_lane ∈ TB := TB_mem (List.mem_of_getElem? (i := 357) (by decide +kernel)) rfl
theorem ms_X3_lane : Cond.selects RX3 yX3_lane yX3_lane ∈ TB := TB_mem (List.mem_of_getElem? (i := 358) (by decide +kernel)) rfl
set_option maxRecDepth 100000 in
theorem mc_X3_lane : Cond.code yX3_lane cX3_lane 2 (some (.object "ShipCut$Lane")) ∈ TB := TB_mem (List.mem_of_getElem? (i := 359) (rfl)) rfl
theorem mlX5_179 : Cond.methodLink RX5 179 yX5_moveWithin ∈ TB := TB_mem (List.mem_of_getElem? (i := 360) (by decide +kernel)) rfl
theorem mi_X5_moveWithin : Cond.instanceMethod yX5_moveWithin ∈ TB := TB_mem (List.mem_of_getElem? (i := 362) (by decide +kernel)) rfl
set_option maxRecDepth 100000 in
theorem mc_X5_moveWithin : Cond.code yX5_moveWithin cX5_moveWithin 8 none ∈ TB := TB_mem (List.mem_of_getElem? (i := 363) (rfl)) rfl
theorem mlX5_183 : Cond.methodLink RX5 183 yX4_waitBy ∈ TB := TB_mem (List.mem_of_getElem? (i := 364) (by decide +kernel)) rfl
theorem mi_X4_waitBy : Cond.instanceMethod yX4_waitBy ∈ TB := TB_mem (List.mem_of_getElem? (i := 365) (by decide +kernel)) rfl
theorem ms_X4_waitBy : Cond.selects RX4 yX4_waitBy yX4_waitBy ∈ TB := TB_mem (List.mem_of_getElem? (i := 366) (by decide +kernel)) rfl
set_option maxRecDepth 100000 in
theorem mc_X4_waitBy : Cond.code yX4_waitBy cX4_waitBy 2 none ∈ TB := TB_mem (List.mem_of_getElem? (i := 367) (rfl)) rfl
theorem mlX5_186 : Cond.methodLink RX5 186 yX5_leaves ∈ TB := TB_mem (List.mem_of_getElem? (i := 368) (by decide +kernel)) rfl
theorem mi_X5_leaves : Cond.instanceMethod yX5_leaves ∈ TB := TB_mem (List.mem_of_getElem? (i := 370) (by decide +kernel)) rfl
set_option maxRecDepth 100000 in
theorem mc_X5_leaves : Cond.code yX5_leaves cX5_leaves 5 (some .boolean) ∈ TB := TB_mem (List.mem_of_getElem? (i := 371) (rfl)) rfl
theorem mlX5_205 : Cond.methodLink RX5 205 yX5_causeAgainst ∈ TB := TB_mem (List.mem_of_getElem? (i := 372) (by decide +kernel)) rfl
theorem mi_X5_causeAgainst : Cond.instanceMethod yX5_causeAgainst ∈ TB := TB_mem (List.mem_of_getElem? (i := 374) (by decide +kernel)) rfl
set_option maxRecDepth 100000 in
theorem mc_X5_causeAgainst : Cond.code yX5_causeAgainst cX5_causeAgainst 5 (some .int) ∈ TB := TB_mem (List.mem_of_getElem? (i := 375) (rfl)) rfl
theorem mlX5_226 : Cond.methodLink RX5 226 yX2_hasAground ∈ TB := TB_mem (List.mem_of_getElem? (i := 376) (by decide +kernel)) rfl
theorem mi_X2_hasAground : Cond.instanceMethod yX2_hasAground ∈ TB := TB_mem (List.mem_of_getElem? (i := 377) (by decide +kernel)) rfl
theorem ms_X2_hasAground : Cond.selects RX2 yX2_hasAground yX2_hasAground ∈ TB := TB_mem (List.mem_of_getElem? (i := 378) (by decide +kernel)) rfl
set_option maxRecDepth 100000 in
theorem mc_X2_hasAground : Cond.code yX2_hasAground cX2_hasAground 4 (some .boolean) ∈ TB := TB_mem (List.mem_of_getElem? (i := 379) (rfl)) rfl
theorem mlX2_27 : Cond.methodLink RX2 27 yX2_at ∈ TB := TB_mem (List.mem_of_getElem? (i := 380) (by decide +kernel)) rfl
theorem mlX2_34 : Cond.methodLink RX2 34 yX4_isAground ∈ TB := TB_mem (List.mem_of_getElem? (i := 381) (by decide +kernel)) rfl
theorem mlX5_232 : Cond.methodLink RX5 232 yX5_reachesShip ∈ TB := TB_mem (List.mem_of_getElem? (i := 382) (by decide +kernel)) rfl
theorem mi_X5_reachesShip : Cond.instanceMethod yX5_reachesShip ∈ TB := TB_mem (List.mem_of_getElem? (i := 384) (by decide +kernel)) rfl
set_option maxRecDepth 100000 in
theorem mc_X5_reachesShip : Cond.code yX5_reachesShip cX5_reachesShip 7 (some .boolean) ∈ TB := TB_mem (List.mem_of_getElem? (i := 385) (rfl)) rfl
theorem mlX5_238 : Cond.methodLink RX5 238 yX5_depthNow ∈ TB := TB_mem (List.mem_of_getElem? (i := 386) (by decide +kernel)) rfl
theorem mi_X5_depthNow : Cond.instanceMethod yX5_depthNow ∈ TB := TB_mem (List.mem_of_getElem? (i := 388) (by decide +kernel)) rfl
set_option maxRecDepth 100000 in
theorem mc_X5_depthNow : Cond.code yX5_depthNow cX5_depthNow 3 (some .int) ∈ TB := TB_mem (List.mem_of_getElem? (i := 389) (rfl)) rfl
theorem mlX5_248 : Cond.methodLink RX5 248 yX5_hourNow ∈ TB := TB_mem (List.mem_of_getElem? (i := 390) (by decide +kernel)) rfl
theorem mi_X5_hourNow : Cond.instanceMethod yX5_hourNow ∈ TB := TB_mem (List.mem_of_getElem? (i := 392) (by decide +kernel)) rfl
set_option maxRecDepth 100000 in
theorem mc_X5_hourNow : Cond.code yX5_hourNow cX5_hourNow 1 (some .int) ∈ TB := TB_mem (List.mem_of_getElem? (i := 393) (rfl)) rfl
theorem mlX5_245 : Cond.methodLink RX5 245 yX5_windBarsGreat ∈ TB := TB_mem (List.mem_of_getElem? (i := 394) (by decide +kernel)) rfl
theorem mi_X5_windBarsGreat : Cond.instanceMethod yX5_windBarsGreat ∈ TB := TB_mem (List.mem_of_getElem? (i := 396) (by decide +kernel)) rfl
set_option maxRecDepth 100000 in
theorem mc_X5_windBarsGreat : Cond.code yX5_windBarsGreat cX5_windBarsGreat 2 (some .boolean) ∈ TB := TB_mem (List.mem_of_getElem? (i := 397) (rfl)) rfl
theorem mlX5_209 : Cond.methodLink RX5 209 yX5_comesInto ∈ TB := TB_mem (List.mem_of_getElem? (i := 398) (by decide +kernel)) rfl
theorem mi_X5_comesInto : Cond.instanceMethod yX5_comesInto ∈ TB := TB_mem (List.mem_of_getElem? (i := 400) (by decide +kernel)) rfl
set_option maxRecDepth 100000 in
theorem mc_X5_comesInto : Cond.code yX5_comesInto cX5_comesInto 5 (some .boolean) ∈ TB := TB_mem (List.mem_of_getElem? (i := 401) (rfl)) rfl
theorem mlX5_190 : Cond.methodLink RX5 190 yX2_removeFirst ∈ TB := TB_mem (List.mem_of_getElem? (i := 402) (by decide +kernel)) rfl
theorem mi_X2_removeFirst : Cond.instanceMethod yX2_removeFirst ∈ TB := TB_mem (List.mem_of_getElem? (i := 403) (by decide +kernel)) rfl
theorem ms_X2_removeFirst : Cond.selects RX2 yX2_removeFirst yX2_removeFirst ∈ TB := TB_mem (List.mem_of_getElem? (i := 404) (by decide +kernel)) rfl
set_option maxRecDepth 100000 in
theorem mc_X2_removeFirst : Cond.code yX2_removeFirst cX2_removeFirst 2 none ∈ TB := TB_mem (List.mem_of_getElem? (i := 405) (rfl)) rfl
theorem mlX5_141 : Cond.methodLink RX5 141 yX5_letFirstIn ∈ TB := TB_mem (List.mem_of_getElem? (i := 406) (by decide +kernel)) rfl
theorem mi_X5_letFirstIn : Cond.instanceMethod yX5_letFirstIn ∈ TB := TB_mem (List.mem_of_getElem? (i := 408) (by decide +kernel)) rfl
set_option maxRecDepth 100000 in
theorem mc_X5_letFirstIn : Cond.code yX5_letFirstIn cX5_letFirstIn 7 none ∈ TB := TB_mem (List.mem_of_getElem? (i := 409) (rfl)) rfl
theorem mlL_53 : Cond.methodLink RL 53 yX5_told ∈ TB := TB_mem (List.mem_of_getElem? (i := 410) (by decide +kernel)) rfl
theorem mi_X5_told : Cond.instanceMethod yX5_told ∈ TB := TB_mem (List.mem_of_getElem? (i := 411) (by decide +kernel)) rfl
theorem ms_X5_told : Cond.selects RX5 yX5_told yX5_told ∈ TB := TB_mem (List.mem_of_getElem? (i := 412) (by decide +kernel)) rfl
set_option maxRecDepth 100000 in
theorem mc_X5_told : Cond.code yX5_told cX5_told 4 (some .int) ∈ TB := TB_mem (List.mem_of_getElem? (i := 413) (rfl)) rfl
theorem mlX5_252 : Cond.methodLink RX5 252 yX4_dues ∈ TB := TB_mem (List.mem_of_getElem? (i := 414) (by decide +kernel)) rfl
theorem mi_X4_dues : Cond.instanceMethod yX4_dues ∈ TB := TB_mem (List.mem_of_getElem? (i := 415) (by decide +kernel)) rfl
theorem ms_X4_dues : Cond.selects RX4 yX4_dues yX4_dues ∈ TB := TB_mem (List.mem_of_getElem? (i := 416) (by decide +kernel)) rfl
set_option maxRecDepth 100000 in
theorem mc_X4_dues : Cond.code yX4_dues cX4_dues 4 (some .int) ∈ TB := TB_mem (List.mem_of_getElem? (i := 417) (rfl)) rfl
theorem mlX4_66 : Cond.methodLink RX4 66 Lib.Math.min.name ∈ TB := TB_mem (List.mem_of_getElem? (i := 418) (by decide +kernel)) rfl
theorem mt_math_min : Cond.static Lib.Math.min.name ∈ TB := TB_mem (List.mem_of_getElem? (i := 419) (by decide +kernel)) rfl
theorem mc_math_min : Cond.code Lib.Math.min.name Lib.Math.min.code 2 (some .int) ∈ TB := TB_mem (List.mem_of_getElem? (i := 420) (by decide +kernel)) rfl
theorem mlL_57 : Cond.methodLink RL 57 yX5_waited ∈ TB := TB_mem (List.mem_of_getElem? (i := 421) (by decide +kernel)) rfl
theorem mi_X5_waited : Cond.instanceMethod yX5_waited ∈ TB := TB_mem (List.mem_of_getElem? (i := 422) (by decide +kernel)) rfl
theorem ms_X5_waited : Cond.selects RX5 yX5_waited yX5_waited ∈ TB := TB_mem (List.mem_of_getElem? (i := 423) (by decide +kernel)) rfl
set_option maxRecDepth 100000 in
theorem mc_X5_waited : Cond.code yX5_waited cX5_waited 4 (some .int) ∈ TB := TB_mem (List.mem_of_getElem? (i := 424) (rfl)) rfl
theorem mlX5_255 : Cond.methodLink RX5 255 yX4_waitedInAll ∈ TB := TB_mem (List.mem_of_getElem? (i := 425) (by decide +kernel)) rfl
theorem mi_X4_waitedInAll : Cond.instanceMethod yX4_waitedInAll ∈ TB := TB_mem (List.mem_of_getElem? (i := 426) (by decide +kernel)) rfl
theorem ms_X4_waitedInAll : Cond.selects RX4 yX4_waitedInAll yX4_waitedInAll ∈ TB := TB_mem (List.mem_of_getElem? (i := 427) (by decide +kernel)) rfl
set_option maxRecDepth 100000 in
theorem mc_X4_waitedInAll : Cond.code yX4_waitedInAll cX4_waitedInAll 3 (some .int) ∈ TB := TB_mem (List.mem_of_getElem? (i := 428) (rfl)) rfl
theorem mlL_61 : Cond.methodLink RL 61 yX5_line ∈ TB := TB_mem (List.mem_of_getElem? (i := 429) (by decide +kernel)) rfl
theorem mi_X5_line : Cond.instanceMethod yX5_line ∈ TB := TB_mem (List.mem_of_getElem? (i := 430) (by decide +kernel)) rfl
theorem ms_X5_line : Cond.selects RX5 yX5_line yX5_line ∈ TB := TB_mem (List.mem_of_getElem? (i := 431) (by decide +kernel)) rfl
set_option maxRecDepth 100000 in
theorem mc_X5_line : Cond.code yX5_line cX5_line 3 (some .int) ∈ TB := TB_mem (List.mem_of_getElem? (i := 432) (rfl)) rfl
theorem mlX5_261 : Cond.methodLink RX5 261 yX2_numberAt ∈ TB := TB_mem (List.mem_of_getElem? (i := 433) (by decide +kernel)) rfl
theorem mi_X2_numberAt : Cond.instanceMethod yX2_numberAt ∈ TB := TB_mem (List.mem_of_getElem? (i := 434) (by decide +kernel)) rfl
theorem ms_X2_numberAt : Cond.selects RX2 yX2_numberAt yX2_numberAt ∈ TB := TB_mem (List.mem_of_getElem? (i := 435) (by decide +kernel)) rfl
set_option maxRecDepth 100000 in
theorem mc_X2_numberAt : Cond.code yX2_numberAt cX2_numberAt 3 (some .int) ∈ TB := TB_mem (List.mem_of_getElem? (i := 436) (rfl)) rfl
theorem mlL_65 : Cond.methodLink RL 65 yX5_in ∈ TB := TB_mem (List.mem_of_getElem? (i := 437) (by decide +kernel)) rfl
theorem mi_X5_in : Cond.instanceMethod yX5_in ∈ TB := TB_mem (List.mem_of_getElem? (i := 438) (by decide +kernel)) rfl
theorem ms_X5_in : Cond.selects RX5 yX5_in yX5_in ∈ TB := TB_mem (List.mem_of_getElem? (i := 439) (by decide +kernel)) rfl
set_option maxRecDepth 100000 in
theorem mc_X5_in : Cond.code yX5_in cX5_in 5 (some .int) ∈ TB := TB_mem (List.mem_of_getElem? (i := 440) (rfl)) rfl
theorem mlL_70 : Cond.methodLink RL 70 yX5_count ∈ TB := TB_mem (List.mem_of_getElem? (i := 441) (by decide +kernel)) rfl
theorem mi_X5_count : Cond.instanceMethod yX5_count ∈ TB := TB_mem (List.mem_of_getElem? (i := 442) (by decide +kernel)) rfl
theorem ms_X5_count : Cond.selects RX5 yX5_count yX5_count ∈ TB := TB_mem (List.mem_of_getElem? (i := 443) (by decide +kernel)) rfl
set_option maxRecDepth 100000 in
theorem mc_X5_count : Cond.code yX5_count cX5_count 2 (some .int) ∈ TB := TB_mem (List.mem_of_getElem? (i := 444) (rfl)) rfl
theorem mlX5_264 : Cond.methodLink RX5 264 yX5_shipsThat ∈ TB := TB_mem (List.mem_of_getElem? (i := 445) (by decide +kernel)) rfl
theorem mi_X5_shipsThat : Cond.instanceMethod yX5_shipsThat ∈ TB := TB_mem (List.mem_of_getElem? (i := 447) (by decide +kernel)) rfl
set_option maxRecDepth 100000 in
theorem mc_X5_shipsThat : Cond.code yX5_shipsThat cX5_shipsThat 5 (some .int) ∈ TB := TB_mem (List.mem_of_getElem? (i := 448) (rfl)) rfl
theorem mlX5_270 : Cond.methodLink RX5 270 yX4_counts ∈ TB := TB_mem (List.mem_of_getElem? (i := 449) (by decide +kernel)) rfl
theorem mi_X4_counts : Cond.instanceMethod yX4_counts ∈ TB := TB_mem (List.mem_of_getElem? (i := 450) (by decide +kernel)) rfl
theorem ms_X4_counts : Cond.selects RX4 yX4_counts yX4_counts ∈ TB := TB_mem (List.mem_of_getElem? (i := 451) (by decide +kernel)) rfl
set_option maxRecDepth 100000 in
theorem mc_X4_counts : Cond.code yX4_counts cX4_counts 2 (some .boolean) ∈ TB := TB_mem (List.mem_of_getElem? (i := 452) (rfl)) rfl
theorem mlX4_62 : Cond.methodLink RX4 62 yX4_isInSection ∈ TB := TB_mem (List.mem_of_getElem? (i := 453) (by decide +kernel)) rfl
theorem mlX5_267 : Cond.methodLink RX5 267 yX5_mostWaysInOneSection ∈ TB := TB_mem (List.mem_of_getElem? (i := 454) (by decide +kernel)) rfl
theorem mi_X5_mostWaysInOneSection : Cond.instanceMethod yX5_mostWaysInOneSection ∈ TB := TB_mem (List.mem_of_getElem? (i := 456) (by decide +kernel)) rfl
set_option maxRecDepth 100000 in
theorem mc_X5_mostWaysInOneSection : Cond.code yX5_mostWaysInOneSection cX5_mostWaysInOneSection 4 (some .int) ∈ TB := TB_mem (List.mem_of_getElem? (i := 457) (rfl)) rfl
theorem mlX5_273 : Cond.methodLink RX5 273 yX3_waysInside ∈ TB := TB_mem (List.mem_of_getElem? (i := 458) (by decide +kernel)) rfl
theorem mi_X3_waysInside : Cond.instanceMethod yX3_waysInside ∈ TB := TB_mem (List.mem_of_getElem? (i := 459) (by decide +kernel)) rfl
theorem ms_X3_waysInside : Cond.selects RX3 yX3_waysInside yX3_waysInside ∈ TB := TB_mem (List.mem_of_getElem? (i := 460) (by decide +kernel)) rfl
set_option maxRecDepth 100000 in
theorem mc_X3_waysInside : Cond.code yX3_waysInside cX3_waysInside 1 (some .int) ∈ TB := TB_mem (List.mem_of_getElem? (i := 461) (rfl)) rfl
theorem mlX5_276 : Cond.methodLink RX5 276 Lib.Math.max.name ∈ TB := TB_mem (List.mem_of_getElem? (i := 462) (by decide +kernel)) rfl
theorem clL_10 : Cond.classLink RL 10 RX6 ∈ TB := TB_mem (List.mem_of_getElem? (i := 463) (by decide +kernel)) rfl
theorem ci_X6 : Cond.instantiable RX6 36 ∈ TB := TB_mem (List.mem_of_getElem? (i := 464) (by decide +kernel)) rfl
theorem mlL_12 : Cond.methodLink RL 12 yX6_init ∈ TB := TB_mem (List.mem_of_getElem? (i := 465) (by decide +kernel)) rfl
theorem mi_X6_init : Cond.instanceMethod yX6_init ∈ TB := TB_mem (List.mem_of_getElem? (i := 466) (by decide +kernel)) rfl
set_option maxRecDepth 100000 in
theorem mc_X6_init : Cond.code yX6_init cX6_init 2 none ∈ TB := TB_mem (List.mem_of_getElem? (i := 467) (rfl)) rfl
theorem mlX6_1 : Cond.methodLink RX6 1 Lib.objectInit ∈ TB := TB_mem (List.mem_of_getElem? (i := 468) (by decide +kernel)) rfl
theorem flX6_112 : FL RX6 112 6 0 := TB_mem (List.mem_of_getElem? (i := 469) (by decide +kernel)) rfl
theorem flX6_7 : FL RX6 7 6 1 := TB_mem (List.mem_of_getElem? (i := 470) (by decide +kernel)) rfl
theorem flX6_115 : FL RX6 115 6 2 := TB_mem (List.mem_of_getElem? (i := 471) (by decide +kernel)) rfl
theorem flX6_13 : FL RX6 13 6 3 := TB_mem (List.mem_of_getElem? (i := 472) (by decide +kernel)) rfl
theorem flX6_17 : FL RX6 17 6 4 := TB_mem (List.mem_of_getElem? (i := 473) (by decide +kernel)) rfl
theorem flX6_20 : FL RX6 20 6 5 := TB_mem (List.mem_of_getElem? (i := 474) (by decide +kernel)) rfl
theorem flX6_24 : FL RX6 24 6 6 := TB_mem (List.mem_of_getElem? (i := 475) (by decide +kernel)) rfl
theorem flX6_27 : FL RX6 27 6 7 := TB_mem (List.mem_of_getElem? (i := 476) (by decide +kernel)) rfl
theorem flX6_119 : FL RX6 119 6 8 := TB_mem (List.mem_of_getElem? (i := 477) (by decide +kernel)) rfl
theorem flX6_30 : FL RX6 30 6 9 := TB_mem (List.mem_of_getElem? (i := 478) (by decide +kernel)) rfl
theorem flX6_33 : FL RX6 33 6 10 := TB_mem (List.mem_of_getElem? (i := 479) (by decide +kernel)) rfl
theorem flX6_36 : FL RX6 36 6 11 := TB_mem (List.mem_of_getElem? (i := 480) (by decide +kernel)) rfl
theorem flX6_39 : FL RX6 39 6 12 := TB_mem (List.mem_of_getElem? (i := 481) (by decide +kernel)) rfl
theorem flX6_42 : FL RX6 42 6 13 := TB_mem (List.mem_of_getElem? (i := 482) (by decide +kernel)) rfl
theorem flX6_45 : FL RX6 45 6 14 := TB_mem (List.mem_of_getElem? (i := 483) (by decide +kernel)) rfl
theorem flX6_48 : FL RX6 48 6 15 := TB_mem (List.mem_of_getElem? (i := 484) (by decide +kernel)) rfl
theorem flX6_51 : FL RX6 51 6 16 := TB_mem (List.mem_of_getElem? (i := 485) (by decide +kernel)) rfl
theorem flX6_54 : FL RX6 54 6 17 := TB_mem (List.mem_of_getElem? (i := 486) (by decide +kernel)) rfl
theorem flX6_57 : FL RX6 57 6 18 := TB_mem (List.mem_of_getElem? (i := 487) (by decide +kernel)) rfl
theorem flX6_60 : FL RX6 60 6 19 := TB_mem (List.mem_of_getElem? (i := 488) (by decide +kernel)) rfl
theorem flX6_63 : FL RX6 63 6 20 := TB_mem (List.mem_of_getElem? (i := 489) (by decide +kernel)) rfl
theorem flX6_66 : FL RX6 66 6 21 := TB_mem (List.mem_of_getElem? (i := 490) (by decide +kernel)) rfl
theorem flX6_69 : FL RX6 69 6 22 := TB_mem (List.mem_of_getElem? (i := 491) (by decide +kernel)) rfl
theorem flX6_72 : FL RX6 72 6 23 := TB_mem (List.mem_of_getElem? (i := 492) (by decide +kernel)) rfl
theorem flX6_122 : FL RX6 122 6 24 := TB_mem (List.mem_of_getElem? (i := 493) (by decide +kernel)) rfl
theorem flX6_75 : FL RX6 75 6 25 := TB_mem (List.mem_of_getElem? (i := 494) (by decide +kernel)) rfl
theorem flX6_78 : FL RX6 78 6 26 := TB_mem (List.mem_of_getElem? (i := 495) (by decide +kernel)) rfl
theorem flX6_81 : FL RX6 81 6 27 := TB_mem (List.mem_of_getElem? (i := 496) (by decide +kernel)) rfl
theorem flX6_84 : FL RX6 84 6 28 := TB_mem (List.mem_of_getElem? (i := 497) (by decide +kernel)) rfl
theorem flX6_87 : FL RX6 87 6 29 := TB_mem (List.mem_of_getElem? (i := 498) (by decide +kernel)) rfl
theorem flX6_90 : FL RX6 90 6 30 := TB_mem (List.mem_of_getElem? (i := 499) (by decide +kernel)) rfl
theorem flX6_93 : FL RX6 93 6 31 := TB_mem (List.mem_of_getElem? (i := 500) (by decide +kernel)) rfl
theorem flX6_96 : FL RX6 96 6 32 := TB_mem (List.mem_of_getElem? (i := 501) (by decide +kernel)) rfl
theorem flX6_99 : FL RX6 99 6 33 := TB_mem (List.mem_of_getElem? (i := 502) (by decide +kernel)) rfl
theorem flX6_102 : FL RX6 102 6 34 := TB_mem (List.mem_of_getElem? (i := 503) (by decide +kernel)) rfl
theorem flX6_105 : FL RX6 105 6 35 := TB_mem (List.mem_of_getElem? (i := 504) (by decide +kernel)) rfl
theorem ac_boolean : Cond.arrayClass .boolean ∈ TB := TB_mem (List.mem_of_getElem? (i := 578) (by decide +kernel)) rfl
theorem mlL_17 : Cond.methodLink RL 17 yX6_section ∈ TB := TB_mem (List.mem_of_getElem? (i := 579) (by decide +kernel)) rfl
theorem mi_X6_section : Cond.instanceMethod yX6_section ∈ TB := TB_mem (List.mem_of_getElem? (i := 580) (by decide +kernel)) rfl
theorem ms_X6_section : Cond.selects RX6 yX6_section yX6_section ∈ TB := TB_mem (List.mem_of_getElem? (i := 581) (by decide +kernel)) rfl
set_option maxRecDepth 100000 in
theorem mc_X6_section : Cond.code yX6_section cX6_section 5 (some .int) ∈ TB := TB_mem (List.mem_of_getElem? (i := 582) (rfl)) rfl
theorem mlX6_108 : Cond.methodLink RX6 108 yX6_isIn ∈ TB := TB_mem (List.mem_of_getElem? (i := 583) (by decide +kernel)) rfl
theorem mt_X6_isIn : Cond.static yX6_isIn ∈ TB := TB_mem (List.mem_of_getElem? (i := 584) (by decide +kernel)) rfl
set_option maxRecDepth 100000 in
theorem mc_X6_isIn : Cond.code yX6_isIn cX6_isIn 3 (some .boolean) ∈ TB := TB_mem (List.mem_of_getElem? (i := 585) (rfl)) rfl
theorem mlL_22 : Cond.methodLink RL 22 yX6_tide ∈ TB := TB_mem (List.mem_of_getElem? (i := 586) (by decide +kernel)) rfl
theorem mi_X6_tide : Cond.instanceMethod yX6_tide ∈ TB := TB_mem (List.mem_of_getElem? (i := 587) (by decide +kernel)) rfl
theorem ms_X6_tide : Cond.selects RX6 yX6_tide yX6_tide ∈ TB := TB_mem (List.mem_of_getElem? (i := 588) (by decide +kernel)) rfl
set_option maxRecDepth 100000 in
theorem mc_X6_tide : Cond.code yX6_tide cX6_tide 4 (some .int) ∈ TB := TB_mem (List.mem_of_getElem? (i := 589) (rfl)) rfl
theorem mlL_26 : Cond.methodLink RL 26 yX6_wind ∈ TB := TB_mem (List.mem_of_getElem? (i := 590) (by decide +kernel)) rfl
theorem mi_X6_wind : Cond.instanceMethod yX6_wind ∈ TB := TB_mem (List.mem_of_getElem? (i := 591) (by decide +kernel)) rfl
theorem ms_X6_wind : Cond.selects RX6 yX6_wind yX6_wind ∈ TB := TB_mem (List.mem_of_getElem? (i := 592) (by decide +kernel)) rfl
set_option maxRecDepth 100000 in
theorem mc_X6_wind : Cond.code yX6_wind cX6_wind 4 (some .int) ∈ TB := TB_mem (List.mem_of_getElem? (i := 593) (rfl)) rfl
theorem mlL_30 : Cond.methodLink RL 30 yX6_rule ∈ TB := TB_mem (List.mem_of_getElem? (i := 594) (by decide +kernel)) rfl
theorem mi_X6_rule : Cond.instanceMethod yX6_rule ∈ TB := TB_mem (List.mem_of_getElem? (i := 595) (by decide +kernel)) rfl
theorem ms_X6_rule : Cond.selects RX6 yX6_rule yX6_rule ∈ TB := TB_mem (List.mem_of_getElem? (i := 596) (by decide +kernel)) rfl
set_option maxRecDepth 100000 in
theorem mc_X6_rule : Cond.code yX6_rule cX6_rule 4 (some .int) ∈ TB := TB_mem (List.mem_of_getElem? (i := 597) (rfl)) rfl
theorem mlL_35 : Cond.methodLink RL 35 yX6_ship ∈ TB := TB_mem (List.mem_of_getElem? (i := 598) (by decide +kernel)) rfl
theorem mi_X6_ship : Cond.instanceMethod yX6_ship ∈ TB := TB_mem (List.mem_of_getElem? (i := 599) (by decide +kernel)) rfl
theorem ms_X6_ship : Cond.selects RX6 yX6_ship yX6_ship ∈ TB := TB_mem (List.mem_of_getElem? (i := 600) (by decide +kernel)) rfl
set_option maxRecDepth 100000 in
theorem mc_X6_ship : Cond.code yX6_ship cX6_ship 7 (some .int) ∈ TB := TB_mem (List.mem_of_getElem? (i := 601) (rfl)) rfl
theorem ctX6_118 : Cond.constant RX6 118 (200000) ∈ TB := TB_mem (List.mem_of_getElem? (i := 602) (by decide +kernel)) rfl
theorem mlL_39 : Cond.methodLink RL 39 yX6_convoy ∈ TB := TB_mem (List.mem_of_getElem? (i := 603) (by decide +kernel)) rfl
theorem mi_X6_convoy : Cond.instanceMethod yX6_convoy ∈ TB := TB_mem (List.mem_of_getElem? (i := 604) (by decide +kernel)) rfl
theorem ms_X6_convoy : Cond.selects RX6 yX6_convoy yX6_convoy ∈ TB := TB_mem (List.mem_of_getElem? (i := 605) (by decide +kernel)) rfl
set_option maxRecDepth 100000 in
theorem mc_X6_convoy : Cond.code yX6_convoy cX6_convoy 3 (some .int) ∈ TB := TB_mem (List.mem_of_getElem? (i := 606) (rfl)) rfl
theorem mlL_43 : Cond.methodLink RL 43 yX6_book ∈ TB := TB_mem (List.mem_of_getElem? (i := 607) (by decide +kernel)) rfl
theorem mi_X6_book : Cond.instanceMethod yX6_book ∈ TB := TB_mem (List.mem_of_getElem? (i := 608) (by decide +kernel)) rfl
theorem ms_X6_book : Cond.selects RX6 yX6_book yX6_book ∈ TB := TB_mem (List.mem_of_getElem? (i := 609) (by decide +kernel)) rfl
set_option maxRecDepth 100000 in
theorem mc_X6_book : Cond.code yX6_book cX6_book 3 (some .int) ∈ TB := TB_mem (List.mem_of_getElem? (i := 610) (rfl)) rfl
theorem mlL_47 : Cond.methodLink RL 47 yX6_ground ∈ TB := TB_mem (List.mem_of_getElem? (i := 611) (by decide +kernel)) rfl
theorem mi_X6_ground : Cond.instanceMethod yX6_ground ∈ TB := TB_mem (List.mem_of_getElem? (i := 612) (by decide +kernel)) rfl
theorem ms_X6_ground : Cond.selects RX6 yX6_ground yX6_ground ∈ TB := TB_mem (List.mem_of_getElem? (i := 613) (by decide +kernel)) rfl
set_option maxRecDepth 100000 in
theorem mc_X6_ground : Cond.code yX6_ground cX6_ground 3 (some .int) ∈ TB := TB_mem (List.mem_of_getElem? (i := 614) (rfl)) rfl
theorem mlL_52 : Cond.methodLink RL 52 yX6_minutes ∈ TB := TB_mem (List.mem_of_getElem? (i := 615) (by decide +kernel)) rfl
theorem mi_X6_minutes : Cond.instanceMethod yX6_minutes ∈ TB := TB_mem (List.mem_of_getElem? (i := 616) (by decide +kernel)) rfl
theorem ms_X6_minutes : Cond.selects RX6 yX6_minutes yX6_minutes ∈ TB := TB_mem (List.mem_of_getElem? (i := 617) (by decide +kernel)) rfl
set_option maxRecDepth 100000 in
theorem mc_X6_minutes : Cond.code yX6_minutes cX6_minutes 4 (some .int) ∈ TB := TB_mem (List.mem_of_getElem? (i := 618) (rfl)) rfl
theorem mlX6_155 : Cond.methodLink RX6 155 yX6_starts ∈ TB := TB_mem (List.mem_of_getElem? (i := 619) (by decide +kernel)) rfl
theorem mi_X6_starts : Cond.instanceMethod yX6_starts ∈ TB := TB_mem (List.mem_of_getElem? (i := 621) (by decide +kernel)) rfl
set_option maxRecDepth 100000 in
theorem mc_X6_starts : Cond.code yX6_starts cX6_starts 3 none ∈ TB := TB_mem (List.mem_of_getElem? (i := 622) (rfl)) rfl
theorem mlX6_125 : Cond.methodLink RX6 125 yX6_joins ∈ TB := TB_mem (List.mem_of_getElem? (i := 623) (by decide +kernel)) rfl
theorem mi_X6_joins : Cond.instanceMethod yX6_joins ∈ TB := TB_mem (List.mem_of_getElem? (i := 625) (by decide +kernel)) rfl
set_option maxRecDepth 100000 in
theorem mc_X6_joins : Cond.code yX6_joins cX6_joins 3 none ∈ TB := TB_mem (List.mem_of_getElem? (i := 626) (rfl)) rfl
theorem mlX6_158 : Cond.methodLink RX6 158 yX6_lates ∈ TB := TB_mem (List.mem_of_getElem? (i := 627) (by decide +kernel)) rfl
theorem mi_X6_lates : Cond.instanceMethod yX6_lates ∈ TB := TB_mem (List.mem_of_getElem? (i := 629) (by decide +kernel)) rfl
set_option maxRecDepth 100000 in
theorem mc_X6_lates : Cond.code yX6_lates cX6_lates 3 none ∈ TB := TB_mem (List.mem_of_getElem? (i := 630) (rfl)) rfl
theorem mlX6_129 : Cond.methodLink RX6 129 yX6_nextConvoy ∈ TB := TB_mem (List.mem_of_getElem? (i := 631) (by decide +kernel)) rfl
theorem mi_X6_nextConvoy : Cond.instanceMethod yX6_nextConvoy ∈ TB := TB_mem (List.mem_of_getElem? (i := 633) (by decide +kernel)) rfl
set_option maxRecDepth 100000 in
theorem mc_X6_nextConvoy : Cond.code yX6_nextConvoy cX6_nextConvoy 5 (some .int) ∈ TB := TB_mem (List.mem_of_getElem? (i := 634) (rfl)) rfl
theorem mlX6_161 : Cond.methodLink RX6 161 yX6_moves ∈ TB := TB_mem (List.mem_of_getElem? (i := 635) (by decide +kernel)) rfl
theorem mi_X6_moves : Cond.instanceMethod yX6_moves ∈ TB := TB_mem (List.mem_of_getElem? (i := 637) (by decide +kernel)) rfl
set_option maxRecDepth 100000 in
theorem mc_X6_moves : Cond.code yX6_moves cX6_moves 8 none ∈ TB := TB_mem (List.mem_of_getElem? (i := 638) (rfl)) rfl
theorem mlX6_141 : Cond.methodLink RX6 141 yX6_goes ∈ TB := TB_mem (List.mem_of_getElem? (i := 639) (by decide +kernel)) rfl
theorem mi_X6_goes : Cond.instanceMethod yX6_goes ∈ TB := TB_mem (List.mem_of_getElem? (i := 641) (by decide +kernel)) rfl
set_option maxRecDepth 100000 in
theorem mc_X6_goes : Cond.code yX6_goes cX6_goes 6 (some .boolean) ∈ TB := TB_mem (List.mem_of_getElem? (i := 642) (rfl)) rfl
theorem mlX6_144 : Cond.methodLink RX6 144 yX6_leaves ∈ TB := TB_mem (List.mem_of_getElem? (i := 643) (by decide +kernel)) rfl
theorem mi_X6_leaves : Cond.instanceMethod yX6_leaves ∈ TB := TB_mem (List.mem_of_getElem? (i := 645) (by decide +kernel)) rfl
set_option maxRecDepth 100000 in
theorem mc_X6_leaves : Cond.code yX6_leaves cX6_leaves 5 none ∈ TB := TB_mem (List.mem_of_getElem? (i := 646) (rfl)) rfl
theorem mlX6_148 : Cond.methodLink RX6 148 yX6_cause ∈ TB := TB_mem (List.mem_of_getElem? (i := 647) (by decide +kernel)) rfl
theorem mi_X6_cause : Cond.instanceMethod yX6_cause ∈ TB := TB_mem (List.mem_of_getElem? (i := 649) (by decide +kernel)) rfl
set_option maxRecDepth 100000 in
theorem mc_X6_cause : Cond.code yX6_cause cX6_cause 6 (some .int) ∈ TB := TB_mem (List.mem_of_getElem? (i := 650) (rfl)) rfl
theorem mlX6_133 : Cond.methodLink RX6 133 yX6_isAground ∈ TB := TB_mem (List.mem_of_getElem? (i := 651) (by decide +kernel)) rfl
theorem mi_X6_isAground : Cond.instanceMethod yX6_isAground ∈ TB := TB_mem (List.mem_of_getElem? (i := 653) (by decide +kernel)) rfl
set_option maxRecDepth 100000 in
theorem mc_X6_isAground : Cond.code yX6_isAground cX6_isAground 4 (some .boolean) ∈ TB := TB_mem (List.mem_of_getElem? (i := 654) (rfl)) rfl
theorem mlX6_137 : Cond.methodLink RX6 137 yX6_isOncoming ∈ TB := TB_mem (List.mem_of_getElem? (i := 655) (by decide +kernel)) rfl
theorem mi_X6_isOncoming : Cond.instanceMethod yX6_isOncoming ∈ TB := TB_mem (List.mem_of_getElem? (i := 657) (by decide +kernel)) rfl
set_option maxRecDepth 100000 in
theorem mc_X6_isOncoming : Cond.code yX6_isOncoming cX6_isOncoming 6 (some .boolean) ∈ TB := TB_mem (List.mem_of_getElem? (i := 658) (rfl)) rfl
theorem mlX6_152 : Cond.methodLink RX6 152 yX6_enters ∈ TB := TB_mem (List.mem_of_getElem? (i := 659) (by decide +kernel)) rfl
theorem mi_X6_enters : Cond.instanceMethod yX6_enters ∈ TB := TB_mem (List.mem_of_getElem? (i := 661) (by decide +kernel)) rfl
set_option maxRecDepth 100000 in
theorem mc_X6_enters : Cond.code yX6_enters cX6_enters 4 none ∈ TB := TB_mem (List.mem_of_getElem? (i := 662) (rfl)) rfl
theorem mlX6_164 : Cond.methodLink RX6 164 yX6_comesIn ∈ TB := TB_mem (List.mem_of_getElem? (i := 663) (by decide +kernel)) rfl
theorem mi_X6_comesIn : Cond.instanceMethod yX6_comesIn ∈ TB := TB_mem (List.mem_of_getElem? (i := 665) (by decide +kernel)) rfl
set_option maxRecDepth 100000 in
theorem mc_X6_comesIn : Cond.code yX6_comesIn cX6_comesIn 6 none ∈ TB := TB_mem (List.mem_of_getElem? (i := 666) (rfl)) rfl
theorem mlL_56 : Cond.methodLink RL 56 yX6_told ∈ TB := TB_mem (List.mem_of_getElem? (i := 667) (by decide +kernel)) rfl
theorem mi_X6_told : Cond.instanceMethod yX6_told ∈ TB := TB_mem (List.mem_of_getElem? (i := 668) (by decide +kernel)) rfl
theorem ms_X6_told : Cond.selects RX6 yX6_told yX6_told ∈ TB := TB_mem (List.mem_of_getElem? (i := 669) (by decide +kernel)) rfl
set_option maxRecDepth 100000 in
theorem mc_X6_told : Cond.code yX6_told cX6_told 3 (some .int) ∈ TB := TB_mem (List.mem_of_getElem? (i := 670) (rfl)) rfl
theorem mlX6_168 : Cond.methodLink RX6 168 yX6_dues ∈ TB := TB_mem (List.mem_of_getElem? (i := 671) (by decide +kernel)) rfl
theorem mi_X6_dues : Cond.instanceMethod yX6_dues ∈ TB := TB_mem (List.mem_of_getElem? (i := 673) (by decide +kernel)) rfl
set_option maxRecDepth 100000 in
theorem mc_X6_dues : Cond.code yX6_dues cX6_dues 4 (some .int) ∈ TB := TB_mem (List.mem_of_getElem? (i := 674) (rfl)) rfl
theorem ctX6_167 : Cond.constant RX6 167 (45000) ∈ TB := TB_mem (List.mem_of_getElem? (i := 675) (by decide +kernel)) rfl
theorem mlL_60 : Cond.methodLink RL 60 yX6_waited ∈ TB := TB_mem (List.mem_of_getElem? (i := 676) (by decide +kernel)) rfl
theorem mi_X6_waited : Cond.instanceMethod yX6_waited ∈ TB := TB_mem (List.mem_of_getElem? (i := 677) (by decide +kernel)) rfl
theorem ms_X6_waited : Cond.selects RX6 yX6_waited yX6_waited ∈ TB := TB_mem (List.mem_of_getElem? (i := 678) (by decide +kernel)) rfl
set_option maxRecDepth 100000 in
theorem mc_X6_waited : Cond.code yX6_waited cX6_waited 5 (some .int) ∈ TB := TB_mem (List.mem_of_getElem? (i := 679) (rfl)) rfl
theorem mlL_64 : Cond.methodLink RL 64 yX6_line ∈ TB := TB_mem (List.mem_of_getElem? (i := 680) (by decide +kernel)) rfl
theorem mi_X6_line : Cond.instanceMethod yX6_line ∈ TB := TB_mem (List.mem_of_getElem? (i := 681) (by decide +kernel)) rfl
theorem ms_X6_line : Cond.selects RX6 yX6_line yX6_line ∈ TB := TB_mem (List.mem_of_getElem? (i := 682) (by decide +kernel)) rfl
set_option maxRecDepth 100000 in
theorem mc_X6_line : Cond.code yX6_line cX6_line 3 (some .int) ∈ TB := TB_mem (List.mem_of_getElem? (i := 683) (rfl)) rfl
theorem mlL_69 : Cond.methodLink RL 69 yX6_in ∈ TB := TB_mem (List.mem_of_getElem? (i := 684) (by decide +kernel)) rfl
theorem mi_X6_in : Cond.instanceMethod yX6_in ∈ TB := TB_mem (List.mem_of_getElem? (i := 685) (by decide +kernel)) rfl
theorem ms_X6_in : Cond.selects RX6 yX6_in yX6_in ∈ TB := TB_mem (List.mem_of_getElem? (i := 686) (by decide +kernel)) rfl
set_option maxRecDepth 100000 in
theorem mc_X6_in : Cond.code yX6_in cX6_in 4 (some .int) ∈ TB := TB_mem (List.mem_of_getElem? (i := 687) (rfl)) rfl
theorem mlL_73 : Cond.methodLink RL 73 yX6_count ∈ TB := TB_mem (List.mem_of_getElem? (i := 688) (by decide +kernel)) rfl
theorem mi_X6_count : Cond.instanceMethod yX6_count ∈ TB := TB_mem (List.mem_of_getElem? (i := 689) (by decide +kernel)) rfl
theorem ms_X6_count : Cond.selects RX6 yX6_count yX6_count ∈ TB := TB_mem (List.mem_of_getElem? (i := 690) (by decide +kernel)) rfl
set_option maxRecDepth 100000 in
theorem mc_X6_count : Cond.code yX6_count cX6_count 7 (some .int) ∈ TB := TB_mem (List.mem_of_getElem? (i := 691) (rfl)) rfl
theorem mlX6_171 : Cond.methodLink RX6 171 yX6_several ∈ TB := TB_mem (List.mem_of_getElem? (i := 692) (by decide +kernel)) rfl
theorem mi_X6_several : Cond.instanceMethod yX6_several ∈ TB := TB_mem (List.mem_of_getElem? (i := 694) (by decide +kernel)) rfl
set_option maxRecDepth 100000 in
theorem mc_X6_several : Cond.code yX6_several cX6_several 4 (some .int) ∈ TB := TB_mem (List.mem_of_getElem? (i := 695) (rfl)) rfl
theorem uw_X0 : ∀ w ∈ u_ws RX0 TX0 4, w ∈ TB := by
  show ∀ w ∈ [u_lay RX0 TX0 0, u_lay RX0 TX0 1, u_lay RX0 TX0 2, u_lay RX0 TX0 3], w ∈ TB
  exact List.forall_mem_cons.mpr ⟨TB_mem (List.mem_of_getElem? (i := 287) (by decide +kernel)) rfl, List.forall_mem_cons.mpr ⟨TB_mem (List.mem_of_getElem? (i := 289) (by decide +kernel)) rfl, List.forall_mem_cons.mpr ⟨TB_mem (List.mem_of_getElem? (i := 291) (by decide +kernel)) rfl, List.forall_mem_cons.mpr ⟨TB_mem (List.mem_of_getElem? (i := 293) (by decide +kernel)) rfl, fun _ h => absurd h List.not_mem_nil⟩⟩⟩⟩
theorem uw_X1 : ∀ w ∈ u_ws RX1 TX1 2, w ∈ TB := by
  show ∀ w ∈ [u_lay RX1 TX1 0, u_lay RX1 TX1 1], w ∈ TB
  exact List.forall_mem_cons.mpr ⟨TB_mem (List.mem_of_getElem? (i := 95) (by decide +kernel)) rfl, List.forall_mem_cons.mpr ⟨TB_mem (List.mem_of_getElem? (i := 97) (by decide +kernel)) rfl, fun _ h => absurd h List.not_mem_nil⟩⟩
theorem uw_X2 : ∀ w ∈ u_ws RX2 TX2 2, w ∈ TB := by
  show ∀ w ∈ [u_lay RX2 TX2 0, u_lay RX2 TX2 1], w ∈ TB
  exact List.forall_mem_cons.mpr ⟨TB_mem (List.mem_of_getElem? (i := 69) (by decide +kernel)) rfl, List.forall_mem_cons.mpr ⟨TB_mem (List.mem_of_getElem? (i := 71) (by decide +kernel)) rfl, fun _ h => absurd h List.not_mem_nil⟩⟩
theorem uw_X3 : ∀ w ∈ u_ws RX3 TX3 6, w ∈ TB := by
  show ∀ w ∈ [u_lay RX3 TX3 0, u_lay RX3 TX3 1, u_lay RX3 TX3 2, u_lay RX3 TX3 3, u_lay RX3 TX3 4, u_lay RX3 TX3 5], w ∈ TB
  exact List.forall_mem_cons.mpr ⟨TB_mem (List.mem_of_getElem? (i := 112) (by decide +kernel)) rfl, List.forall_mem_cons.mpr ⟨TB_mem (List.mem_of_getElem? (i := 114) (by decide +kernel)) rfl, List.forall_mem_cons.mpr ⟨TB_mem (List.mem_of_getElem? (i := 116) (by decide +kernel)) rfl, List.forall_mem_cons.mpr ⟨TB_mem (List.mem_of_getElem? (i := 118) (by decide +kernel)) rfl, List.forall_mem_cons.mpr ⟨TB_mem (List.mem_of_getElem? (i := 120) (by decide +kernel)) rfl, List.forall_mem_cons.mpr ⟨TB_mem (List.mem_of_getElem? (i := 122) (by decide +kernel)) rfl, fun _ h => absurd h List.not_mem_nil⟩⟩⟩⟩⟩⟩
theorem uw_X4 : ∀ w ∈ u_ws RX4 TX4 16, w ∈ TB := by
  show ∀ w ∈ [u_lay RX4 TX4 0, u_lay RX4 TX4 1, u_lay RX4 TX4 2, u_lay RX4 TX4 3, u_lay RX4 TX4 4, u_lay RX4 TX4 5, u_lay RX4 TX4 6, u_lay RX4 TX4 7, u_lay RX4 TX4 8, u_lay RX4 TX4 9, u_lay RX4 TX4 10, u_lay RX4 TX4 11, u_lay RX4 TX4 12, u_lay RX4 TX4 13, u_lay RX4 TX4 14, u_lay RX4 TX4 15], w ∈ TB
  exact List.forall_mem_cons.mpr ⟨TB_mem (List.mem_of_getElem? (i := 231) (by decide +kernel)) rfl, List.forall_mem_cons.mpr ⟨TB_mem (List.mem_of_getElem? (i := 233) (by decide +kernel)) rfl, List.forall_mem_cons.mpr ⟨TB_mem (List.mem_of_getElem? (i := 235) (by decide +kernel)) rfl, List.forall_mem_cons.mpr ⟨TB_mem (List.mem_of_getElem? (i := 237) (by decide +kernel)) rfl, List.forall_mem_cons.mpr ⟨TB_mem (List.mem_of_getElem? (i := 239) (by decide +kernel)) rfl, List.forall_mem_cons.mpr ⟨TB_mem (List.mem_of_getElem? (i := 241) (by decide +kernel)) rfl, List.forall_mem_cons.mpr ⟨TB_mem (List.mem_of_getElem? (i := 243) (by decide +kernel)) rfl, List.forall_mem_cons.mpr ⟨TB_mem (List.mem_of_getElem? (i := 245) (by decide +kernel)) rfl, List.forall_mem_cons.mpr ⟨TB_mem (List.mem_of_getElem? (i := 247) (by decide +kernel)) rfl, List.forall_mem_cons.mpr ⟨TB_mem (List.mem_of_getElem? (i := 249) (by decide +kernel)) rfl, List.forall_mem_cons.mpr ⟨TB_mem (List.mem_of_getElem? (i := 251) (by decide +kernel)) rfl, List.forall_mem_cons.mpr ⟨TB_mem (List.mem_of_getElem? (i := 253) (by decide +kernel)) rfl, List.forall_mem_cons.mpr ⟨TB_mem (List.mem_of_getElem? (i := 255) (by decide +kernel)) rfl, List.forall_mem_cons.mpr ⟨TB_mem (List.mem_of_getElem? (i := 257) (by decide +kernel)) rfl, List.forall_mem_cons.mpr ⟨TB_mem (List.mem_of_getElem? (i := 259) (by decide +kernel)) rfl, List.forall_mem_cons.mpr ⟨TB_mem (List.mem_of_getElem? (i := 261) (by decide +kernel)) rfl, fun _ h => absurd h List.not_mem_nil⟩⟩⟩⟩⟩⟩⟩⟩⟩⟩⟩⟩⟩⟩⟩⟩
theorem uw_X5 : ∀ w ∈ u_ws RX5 TX5 11, w ∈ TB := by
  show ∀ w ∈ [u_lay RX5 TX5 0, u_lay RX5 TX5 1, u_lay RX5 TX5 2, u_lay RX5 TX5 3, u_lay RX5 TX5 4, u_lay RX5 TX5 5, u_lay RX5 TX5 6, u_lay RX5 TX5 7, u_lay RX5 TX5 8, u_lay RX5 TX5 9, u_lay RX5 TX5 10], w ∈ TB
  exact List.forall_mem_cons.mpr ⟨TB_mem (List.mem_of_getElem? (i := 136) (by decide +kernel)) rfl, List.forall_mem_cons.mpr ⟨TB_mem (List.mem_of_getElem? (i := 138) (by decide +kernel)) rfl, List.forall_mem_cons.mpr ⟨TB_mem (List.mem_of_getElem? (i := 140) (by decide +kernel)) rfl, List.forall_mem_cons.mpr ⟨TB_mem (List.mem_of_getElem? (i := 142) (by decide +kernel)) rfl, List.forall_mem_cons.mpr ⟨TB_mem (List.mem_of_getElem? (i := 144) (by decide +kernel)) rfl, List.forall_mem_cons.mpr ⟨TB_mem (List.mem_of_getElem? (i := 146) (by decide +kernel)) rfl, List.forall_mem_cons.mpr ⟨TB_mem (List.mem_of_getElem? (i := 148) (by decide +kernel)) rfl, List.forall_mem_cons.mpr ⟨TB_mem (List.mem_of_getElem? (i := 150) (by decide +kernel)) rfl, List.forall_mem_cons.mpr ⟨TB_mem (List.mem_of_getElem? (i := 152) (by decide +kernel)) rfl, List.forall_mem_cons.mpr ⟨TB_mem (List.mem_of_getElem? (i := 154) (by decide +kernel)) rfl, List.forall_mem_cons.mpr ⟨TB_mem (List.mem_of_getElem? (i := 156) (by decide +kernel)) rfl, fun _ h => absurd h List.not_mem_nil⟩⟩⟩⟩⟩⟩⟩⟩⟩⟩⟩
theorem uw_X6 : ∀ w ∈ u_ws RX6 TX6 36, w ∈ TB := by
  show ∀ w ∈ [u_lay RX6 TX6 0, u_lay RX6 TX6 1, u_lay RX6 TX6 2, u_lay RX6 TX6 3, u_lay RX6 TX6 4, u_lay RX6 TX6 5, u_lay RX6 TX6 6, u_lay RX6 TX6 7, u_lay RX6 TX6 8, u_lay RX6 TX6 9, u_lay RX6 TX6 10, u_lay RX6 TX6 11, u_lay RX6 TX6 12, u_lay RX6 TX6 13, u_lay RX6 TX6 14, u_lay RX6 TX6 15, u_lay RX6 TX6 16, u_lay RX6 TX6 17, u_lay RX6 TX6 18, u_lay RX6 TX6 19, u_lay RX6 TX6 20, u_lay RX6 TX6 21, u_lay RX6 TX6 22, u_lay RX6 TX6 23, u_lay RX6 TX6 24, u_lay RX6 TX6 25, u_lay RX6 TX6 26, u_lay RX6 TX6 27, u_lay RX6 TX6 28, u_lay RX6 TX6 29, u_lay RX6 TX6 30, u_lay RX6 TX6 31, u_lay RX6 TX6 32, u_lay RX6 TX6 33, u_lay RX6 TX6 34, u_lay RX6 TX6 35], w ∈ TB
  exact List.forall_mem_cons.mpr ⟨TB_mem (List.mem_of_getElem? (i := 505) (by decide +kernel)) rfl, List.forall_mem_cons.mpr ⟨TB_mem (List.mem_of_getElem? (i := 507) (by decide +kernel)) rfl, List.forall_mem_cons.mpr ⟨TB_mem (List.mem_of_getElem? (i := 509) (by decide +kernel)) rfl, List.forall_mem_cons.mpr ⟨TB_mem (List.mem_of_getElem? (i := 511) (by decide +kernel)) rfl, List.forall_mem_cons.mpr ⟨TB_mem (List.mem_of_getElem? (i := 513) (by decide +kernel)) rfl, List.forall_mem_cons.mpr ⟨TB_mem (List.mem_of_getElem? (i := 515) (by decide +kernel)) rfl, List.forall_mem_cons.mpr ⟨TB_mem (List.mem_of_getElem? (i := 517) (by decide +kernel)) rfl, List.forall_mem_cons.mpr ⟨TB_mem (List.mem_of_getElem? (i := 519) (by decide +kernel)) rfl, List.forall_mem_cons.mpr ⟨TB_mem (List.mem_of_getElem? (i := 521) (by decide +kernel)) rfl, List.forall_mem_cons.mpr ⟨TB_mem (List.mem_of_getElem? (i := 523) (by decide +kernel)) rfl, List.forall_mem_cons.mpr ⟨TB_mem (List.mem_of_getElem? (i := 525) (by decide +kernel)) rfl, List.forall_mem_cons.mpr ⟨TB_mem (List.mem_of_getElem? (i := 527) (by decide +kernel)) rfl, List.forall_mem_cons.mpr ⟨TB_mem (List.mem_of_getElem? (i := 529) (by decide +kernel)) rfl, List.forall_mem_cons.mpr ⟨TB_mem (List.mem_of_getElem? (i := 531) (by decide +kernel)) rfl, List.forall_mem_cons.mpr ⟨TB_mem (List.mem_of_getElem? (i := 533) (by decide +kernel)) rfl, List.forall_mem_cons.mpr ⟨TB_mem (List.mem_of_getElem? (i := 535) (by decide +kernel)) rfl, List.forall_mem_cons.mpr ⟨TB_mem (List.mem_of_getElem? (i := 537) (by decide +kernel)) rfl, List.forall_mem_cons.mpr ⟨TB_mem (List.mem_of_getElem? (i := 539) (by decide +kernel)) rfl, List.forall_mem_cons.mpr ⟨TB_mem (List.mem_of_getElem? (i := 541) (by decide +kernel)) rfl, List.forall_mem_cons.mpr ⟨TB_mem (List.mem_of_getElem? (i := 543) (by decide +kernel)) rfl, List.forall_mem_cons.mpr ⟨TB_mem (List.mem_of_getElem? (i := 545) (by decide +kernel)) rfl, List.forall_mem_cons.mpr ⟨TB_mem (List.mem_of_getElem? (i := 547) (by decide +kernel)) rfl, List.forall_mem_cons.mpr ⟨TB_mem (List.mem_of_getElem? (i := 549) (by decide +kernel)) rfl, List.forall_mem_cons.mpr ⟨TB_mem (List.mem_of_getElem? (i := 551) (by decide +kernel)) rfl, List.forall_mem_cons.mpr ⟨TB_mem (List.mem_of_getElem? (i := 553) (by decide +kernel)) rfl, List.forall_mem_cons.mpr ⟨TB_mem (List.mem_of_getElem? (i := 555) (by decide +kernel)) rfl, List.forall_mem_cons.mpr ⟨TB_mem (List.mem_of_getElem? (i := 557) (by decide +kernel)) rfl, List.forall_mem_cons.mpr ⟨TB_mem (List.mem_of_getElem? (i := 559) (by decide +kernel)) rfl, List.forall_mem_cons.mpr ⟨TB_mem (List.mem_of_getElem? (i := 561) (by decide +kernel)) rfl, List.forall_mem_cons.mpr ⟨TB_mem (List.mem_of_getElem? (i := 563) (by decide +kernel)) rfl, List.forall_mem_cons.mpr ⟨TB_mem (List.mem_of_getElem? (i := 565) (by decide +kernel)) rfl, List.forall_mem_cons.mpr ⟨TB_mem (List.mem_of_getElem? (i := 567) (by decide +kernel)) rfl, List.forall_mem_cons.mpr ⟨TB_mem (List.mem_of_getElem? (i := 569) (by decide +kernel)) rfl, List.forall_mem_cons.mpr ⟨TB_mem (List.mem_of_getElem? (i := 571) (by decide +kernel)) rfl, List.forall_mem_cons.mpr ⟨TB_mem (List.mem_of_getElem? (i := 573) (by decide +kernel)) rfl, List.forall_mem_cons.mpr ⟨TB_mem (List.mem_of_getElem? (i := 575) (by decide +kernel)) rfl, fun _ h => absurd h List.not_mem_nil⟩⟩⟩⟩⟩⟩⟩⟩⟩⟩⟩⟩⟩⟩⟩⟩⟩⟩⟩⟩⟩⟩⟩⟩⟩⟩⟩⟩⟩⟩⟩⟩⟩⟩⟩⟩
end
section
theorem dX0_init_0 : decode cX0_init 0 = .ok (.aload_n 0, 1) := by decide +kernel
theorem dX0_init_1 : decode cX0_init 1 = .ok (.invokespecial 3, 3) := by decide +kernel
theorem dX0_init_4 : decode cX0_init 4 = .ok (.aload_n 0, 1) := by decide +kernel
theorem dX0_init_5 : decode cX0_init 5 = .ok (.new 9, 3) := by decide +kernel
theorem dX0_init_8 : decode cX0_init 8 = .ok (.dup, 1) := by decide +kernel
theorem dX0_init_9 : decode cX0_init 9 = .ok (.bipush 8, 2) := by decide +kernel
theorem dX0_init_11 : decode cX0_init 11 = .ok (.invokespecial 11, 3) := by decide +kernel
theorem dX0_init_14 : decode cX0_init 14 = .ok (.putfield 14, 3) := by decide +kernel
theorem dX0_init_17 : decode cX0_init 17 = .ok (.aload_n 0, 1) := by decide +kernel
theorem dX0_init_18 : decode cX0_init 18 = .ok (.new 9, 3) := by decide +kernel
theorem dX0_init_21 : decode cX0_init 21 = .ok (.dup, 1) := by decide +kernel
theorem dX0_init_22 : decode cX0_init 22 = .ok (.bipush 30, 2) := by decide +kernel
theorem dX0_init_24 : decode cX0_init 24 = .ok (.invokespecial 11, 3) := by decide +kernel
theorem dX0_init_27 : decode cX0_init 27 = .ok (.putfield 20, 3) := by decide +kernel
theorem dX0_init_30 : decode cX0_init 30 = .ok (.aload_n 0, 1) := by decide +kernel
theorem dX0_init_31 : decode cX0_init 31 = .ok (.iload_n 1, 1) := by decide +kernel
theorem dX0_init_32 : decode cX0_init 32 = .ok (.putfield 23, 3) := by decide +kernel
theorem dX0_init_35 : decode cX0_init 35 = .ok (.aload_n 0, 1) := by decide +kernel
theorem dX0_init_36 : decode cX0_init 36 = .ok (.iload_n 2, 1) := by decide +kernel
theorem dX0_init_37 : decode cX0_init 37 = .ok (.putfield 27, 3) := by decide +kernel
theorem dX0_init_40 : decode cX0_init 40 = .ok (.return_, 1) := by decide +kernel
theorem dX1_init_0 : decode cX1_init 0 = .ok (.aload_n 0, 1) := by decide +kernel
theorem dX1_init_1 : decode cX1_init 1 = .ok (.invokespecial 3, 3) := by decide +kernel
theorem dX1_init_4 : decode cX1_init 4 = .ok (.aload_n 0, 1) := by decide +kernel
theorem dX1_init_5 : decode cX1_init 5 = .ok (.new 9, 3) := by decide +kernel
theorem dX1_init_8 : decode cX1_init 8 = .ok (.dup, 1) := by decide +kernel
theorem dX1_init_9 : decode cX1_init 9 = .ok (.iconst 3, 1) := by decide +kernel
theorem dX1_init_10 : decode cX1_init 10 = .ok (.invokespecial 11, 3) := by decide +kernel
theorem dX1_init_13 : decode cX1_init 13 = .ok (.putfield 14, 3) := by decide +kernel
theorem dX1_init_16 : decode cX1_init 16 = .ok (.aload_n 0, 1) := by decide +kernel
theorem dX1_init_17 : decode cX1_init 17 = .ok (.sipush (-1000), 3) := by decide +kernel
theorem dX1_init_20 : decode cX1_init 20 = .ok (.putfield 20, 3) := by decide +kernel
theorem dX1_init_23 : decode cX1_init 23 = .ok (.return_, 1) := by decide +kernel
theorem dX2_init_0 : decode cX2_init 0 = .ok (.aload_n 0, 1) := by decide +kernel
theorem dX2_init_1 : decode cX2_init 1 = .ok (.invokespecial 3, 3) := by decide +kernel
theorem dX2_init_4 : decode cX2_init 4 = .ok (.aload_n 0, 1) := by decide +kernel
theorem dX2_init_5 : decode cX2_init 5 = .ok (.iconst 0, 1) := by decide +kernel
theorem dX2_init_6 : decode cX2_init 6 = .ok (.putfield 9, 3) := by decide +kernel
theorem dX2_init_9 : decode cX2_init 9 = .ok (.aload_n 0, 1) := by decide +kernel
theorem dX2_init_10 : decode cX2_init 10 = .ok (.iload_n 1, 1) := by decide +kernel
theorem dX2_init_11 : decode cX2_init 11 = .ok (.iconst 0, 1) := by decide +kernel
theorem dX2_init_12 : decode cX2_init 12 = .ok (.invokestatic 15, 3) := by decide +kernel
theorem dX2_init_15 : decode cX2_init 15 = .ok (.anewarray 21, 3) := by decide +kernel
theorem dX2_init_18 : decode cX2_init 18 = .ok (.putfield 23, 3) := by decide +kernel
theorem dX2_init_21 : decode cX2_init 21 = .ok (.return_, 1) := by decide +kernel
theorem dX2_isFull_0 : decode cX2_isFull 0 = .ok (.aload_n 0, 1) := by decide +kernel
theorem dX2_isFull_1 : decode cX2_isFull 1 = .ok (.getfield 9, 3) := by decide +kernel
theorem dX2_isFull_4 : decode cX2_isFull 4 = .ok (.aload_n 0, 1) := by decide +kernel
theorem dX2_isFull_5 : decode cX2_isFull 5 = .ok (.getfield 23, 3) := by decide +kernel
theorem dX2_isFull_8 : decode cX2_isFull 8 = .ok (.arraylength, 1) := by decide +kernel
theorem dX2_isFull_9 : decode cX2_isFull 9 = .ok (.if_icmp .lt 7, 3) := by decide +kernel
theorem dX2_isFull_12 : decode cX2_isFull 12 = .ok (.iconst 1, 1) := by decide +kernel
theorem dX2_isFull_13 : decode cX2_isFull 13 = .ok (.goto 4, 3) := by decide +kernel
theorem dX2_isFull_16 : decode cX2_isFull 16 = .ok (.iconst 0, 1) := by decide +kernel
theorem dX2_isFull_17 : decode cX2_isFull 17 = .ok (.ireturn, 1) := by decide +kernel
theorem dX2_add_0 : decode cX2_add 0 = .ok (.aload_n 0, 1) := by decide +kernel
theorem dX2_add_1 : decode cX2_add 1 = .ok (.getfield 9, 3) := by decide +kernel
theorem dX2_add_4 : decode cX2_add 4 = .ok (.aload_n 0, 1) := by decide +kernel
theorem dX2_add_5 : decode cX2_add 5 = .ok (.getfield 23, 3) := by decide +kernel
theorem dX2_add_8 : decode cX2_add 8 = .ok (.arraylength, 1) := by decide +kernel
theorem dX2_add_9 : decode cX2_add 9 = .ok (.if_icmp .ge 23, 3) := by decide +kernel
theorem dX2_add_12 : decode cX2_add 12 = .ok (.aload_n 0, 1) := by decide +kernel
theorem dX2_add_13 : decode cX2_add 13 = .ok (.getfield 23, 3) := by decide +kernel
theorem dX2_add_16 : decode cX2_add 16 = .ok (.aload_n 0, 1) := by decide +kernel
theorem dX2_add_17 : decode cX2_add 17 = .ok (.getfield 9, 3) := by decide +kernel
theorem dX2_add_20 : decode cX2_add 20 = .ok (.aload_n 1, 1) := by decide +kernel
theorem dX2_add_21 : decode cX2_add 21 = .ok (.aastore, 1) := by decide +kernel
theorem dX2_add_22 : decode cX2_add 22 = .ok (.aload_n 0, 1) := by decide +kernel
theorem dX2_add_23 : decode cX2_add 23 = .ok (.dup, 1) := by decide +kernel
theorem dX2_add_24 : decode cX2_add 24 = .ok (.getfield 9, 3) := by decide +kernel
theorem dX2_add_27 : decode cX2_add 27 = .ok (.iconst 1, 1) := by decide +kernel
theorem dX2_add_28 : decode cX2_add 28 = .ok (.iadd, 1) := by decide +kernel
theorem dX2_add_29 : decode cX2_add 29 = .ok (.putfield 9, 3) := by decide +kernel
theorem dX2_add_32 : decode cX2_add 32 = .ok (.return_, 1) := by decide +kernel
theorem dX2_at_0 : decode cX2_at 0 = .ok (.iload_n 1, 1) := by decide +kernel
theorem dX2_at_1 : decode cX2_at 1 = .ok (.ifCond .lt 20, 3) := by decide +kernel
theorem dX2_at_4 : decode cX2_at 4 = .ok (.iload_n 1, 1) := by decide +kernel
theorem dX2_at_5 : decode cX2_at 5 = .ok (.aload_n 0, 1) := by decide +kernel
theorem dX2_at_6 : decode cX2_at 6 = .ok (.getfield 9, 3) := by decide +kernel
theorem dX2_at_9 : decode cX2_at 9 = .ok (.if_icmp .ge 12, 3) := by decide +kernel
theorem dX2_at_12 : decode cX2_at 12 = .ok (.aload_n 0, 1) := by decide +kernel
theorem dX2_at_13 : decode cX2_at 13 = .ok (.getfield 23, 3) := by decide +kernel
theorem dX2_at_16 : decode cX2_at 16 = .ok (.iload_n 1, 1) := by decide +kernel
theorem dX2_at_17 : decode cX2_at 17 = .ok (.aaload, 1) := by decide +kernel
theorem dX2_at_18 : decode cX2_at 18 = .ok (.goto 4, 3) := by decide +kernel
theorem dX2_at_21 : decode cX2_at 21 = .ok (.aconst_null, 1) := by decide +kernel
theorem dX2_at_22 : decode cX2_at 22 = .ok (.areturn, 1) := by decide +kernel
theorem dX2_numberAt_0 : decode cX2_numberAt 0 = .ok (.aload_n 0, 1) := by decide +kernel
theorem dX2_numberAt_1 : decode cX2_numberAt 1 = .ok (.iload_n 1, 1) := by decide +kernel
theorem dX2_numberAt_2 : decode cX2_numberAt 2 = .ok (.invokevirtual 27, 3) := by decide +kernel
theorem dX2_numberAt_5 : decode cX2_numberAt 5 = .ok (.astore_n 2, 1) := by decide +kernel
theorem dX2_numberAt_6 : decode cX2_numberAt 6 = .ok (.aload_n 2, 1) := by decide +kernel
theorem dX2_numberAt_7 : decode cX2_numberAt 7 = .ok (.ifnonnull 8, 3) := by decide +kernel
theorem dX2_numberAt_10 : decode cX2_numberAt 10 = .ok (.bipush (-4), 2) := by decide +kernel
theorem dX2_numberAt_12 : decode cX2_numberAt 12 = .ok (.goto 7, 3) := by decide +kernel
theorem dX2_numberAt_15 : decode cX2_numberAt 15 = .ok (.aload_n 2, 1) := by decide +kernel
theorem dX2_numberAt_16 : decode cX2_numberAt 16 = .ok (.getfield 31, 3) := by decide +kernel
theorem dX2_numberAt_19 : decode cX2_numberAt 19 = .ok (.ireturn, 1) := by decide +kernel
theorem dX2_hasAground_0 : decode cX2_hasAground 0 = .ok (.iconst 0, 1) := by decide +kernel
theorem dX2_hasAground_1 : decode cX2_hasAground 1 = .ok (.istore_n 2, 1) := by decide +kernel
theorem dX2_hasAground_2 : decode cX2_hasAground 2 = .ok (.iload_n 2, 1) := by decide +kernel
theorem dX2_hasAground_3 : decode cX2_hasAground 3 = .ok (.aload_n 0, 1) := by decide +kernel
theorem dX2_hasAground_4 : decode cX2_hasAground 4 = .ok (.getfield 9, 3) := by decide +kernel
theorem dX2_hasAground_7 : decode cX2_hasAground 7 = .ok (.if_icmp .ge 29, 3) := by decide +kernel
theorem dX2_hasAground_10 : decode cX2_hasAground 10 = .ok (.aload_n 0, 1) := by decide +kernel
theorem dX2_hasAground_11 : decode cX2_hasAground 11 = .ok (.iload_n 2, 1) := by decide +kernel
theorem dX2_hasAground_12 : decode cX2_hasAground 12 = .ok (.invokevirtual 27, 3) := by decide +kernel
theorem dX2_hasAground_15 : decode cX2_hasAground 15 = .ok (.astore_n 3, 1) := by decide +kernel
theorem dX2_hasAground_16 : decode cX2_hasAground 16 = .ok (.aload_n 3, 1) := by decide +kernel
theorem dX2_hasAground_17 : decode cX2_hasAground 17 = .ok (.ifnull 13, 3) := by decide +kernel
theorem dX2_hasAground_20 : decode cX2_hasAground 20 = .ok (.aload_n 3, 1) := by decide +kernel
theorem dX2_hasAground_21 : decode cX2_hasAground 21 = .ok (.iload_n 1, 1) := by decide +kernel
theorem dX2_hasAground_22 : decode cX2_hasAground 22 = .ok (.invokevirtual 34, 3) := by decide +kernel
theorem dX2_hasAground_25 : decode cX2_hasAground 25 = .ok (.ifCond .eq 5, 3) := by decide +kernel
theorem dX2_hasAground_28 : decode cX2_hasAground 28 = .ok (.iconst 1, 1) := by decide +kernel
theorem dX2_hasAground_29 : decode cX2_hasAground 29 = .ok (.ireturn, 1) := by decide +kernel
theorem dX2_hasAground_30 : decode cX2_hasAground 30 = .ok (.iinc 2 1, 3) := by decide +kernel
theorem dX2_hasAground_33 : decode cX2_hasAground 33 = .ok (.goto (-31), 3) := by decide +kernel
theorem dX2_hasAground_36 : decode cX2_hasAground 36 = .ok (.iconst 0, 1) := by decide +kernel
theorem dX2_hasAground_37 : decode cX2_hasAground 37 = .ok (.ireturn, 1) := by decide +kernel
theorem dX2_removeFirst_0 : decode cX2_removeFirst 0 = .ok (.aload_n 0, 1) := by decide +kernel
theorem dX2_removeFirst_1 : decode cX2_removeFirst 1 = .ok (.getfield 9, 3) := by decide +kernel
theorem dX2_removeFirst_4 : decode cX2_removeFirst 4 = .ok (.ifCond .ne 4, 3) := by decide +kernel
theorem dX2_removeFirst_7 : decode cX2_removeFirst 7 = .ok (.return_, 1) := by decide +kernel
theorem dX2_removeFirst_8 : decode cX2_removeFirst 8 = .ok (.iconst 1, 1) := by decide +kernel
theorem dX2_removeFirst_9 : decode cX2_removeFirst 9 = .ok (.istore_n 1, 1) := by decide +kernel
theorem dX2_removeFirst_10 : decode cX2_removeFirst 10 = .ok (.iload_n 1, 1) := by decide +kernel
theorem dX2_removeFirst_11 : decode cX2_removeFirst 11 = .ok (.aload_n 0, 1) := by decide +kernel
theorem dX2_removeFirst_12 : decode cX2_removeFirst 12 = .ok (.getfield 9, 3) := by decide +kernel
theorem dX2_removeFirst_15 : decode cX2_removeFirst 15 = .ok (.if_icmp .ge 23, 3) := by decide +kernel
theorem dX2_removeFirst_18 : decode cX2_removeFirst 18 = .ok (.aload_n 0, 1) := by decide +kernel
theorem dX2_removeFirst_19 : decode cX2_removeFirst 19 = .ok (.getfield 23, 3) := by decide +kernel
theorem dX2_removeFirst_22 : decode cX2_removeFirst 22 = .ok (.iload_n 1, 1) := by decide +kernel
theorem dX2_removeFirst_23 : decode cX2_removeFirst 23 = .ok (.iconst 1, 1) := by decide +kernel
theorem dX2_removeFirst_24 : decode cX2_removeFirst 24 = .ok (.isub, 1) := by decide +kernel
theorem dX2_removeFirst_25 : decode cX2_removeFirst 25 = .ok (.aload_n 0, 1) := by decide +kernel
theorem dX2_removeFirst_26 : decode cX2_removeFirst 26 = .ok (.getfield 23, 3) := by decide +kernel
theorem dX2_removeFirst_29 : decode cX2_removeFirst 29 = .ok (.iload_n 1, 1) := by decide +kernel
theorem dX2_removeFirst_30 : decode cX2_removeFirst 30 = .ok (.aaload, 1) := by decide +kernel
theorem dX2_removeFirst_31 : decode cX2_removeFirst 31 = .ok (.aastore, 1) := by decide +kernel
theorem dX2_removeFirst_32 : decode cX2_removeFirst 32 = .ok (.iinc 1 1, 3) := by decide +kernel
theorem dX2_removeFirst_35 : decode cX2_removeFirst 35 = .ok (.goto (-25), 3) := by decide +kernel
theorem dX2_removeFirst_38 : decode cX2_removeFirst 38 = .ok (.aload_n 0, 1) := by decide +kernel
theorem dX2_removeFirst_39 : decode cX2_removeFirst 39 = .ok (.dup, 1) := by decide +kernel
theorem dX2_removeFirst_40 : decode cX2_removeFirst 40 = .ok (.getfield 9, 3) := by decide +kernel
theorem dX2_removeFirst_43 : decode cX2_removeFirst 43 = .ok (.iconst 1, 1) := by decide +kernel
theorem dX2_removeFirst_44 : decode cX2_removeFirst 44 = .ok (.isub, 1) := by decide +kernel
theorem dX2_removeFirst_45 : decode cX2_removeFirst 45 = .ok (.putfield 9, 3) := by decide +kernel
theorem dX2_removeFirst_48 : decode cX2_removeFirst 48 = .ok (.aload_n 0, 1) := by decide +kernel
theorem dX2_removeFirst_49 : decode cX2_removeFirst 49 = .ok (.getfield 23, 3) := by decide +kernel
theorem dX2_removeFirst_52 : decode cX2_removeFirst 52 = .ok (.aload_n 0, 1) := by decide +kernel
theorem dX2_removeFirst_53 : decode cX2_removeFirst 53 = .ok (.getfield 9, 3) := by decide +kernel
theorem dX2_removeFirst_56 : decode cX2_removeFirst 56 = .ok (.aconst_null, 1) := by decide +kernel
theorem dX2_removeFirst_57 : decode cX2_removeFirst 57 = .ok (.aastore, 1) := by decide +kernel
theorem dX2_removeFirst_58 : decode cX2_removeFirst 58 = .ok (.return_, 1) := by decide +kernel
theorem dX3_init_0 : decode cX3_init 0 = .ok (.aload_n 0, 1) := by decide +kernel
theorem dX3_init_1 : decode cX3_init 1 = .ok (.invokespecial 3, 3) := by decide +kernel
theorem dX3_init_4 : decode cX3_init 4 = .ok (.aload_n 0, 1) := by decide +kernel
theorem dX3_init_5 : decode cX3_init 5 = .ok (.bipush 20, 2) := by decide +kernel
theorem dX3_init_7 : decode cX3_init 7 = .ok (.putfield 9, 3) := by decide +kernel
theorem dX3_init_10 : decode cX3_init 10 = .ok (.aload_n 0, 1) := by decide +kernel
theorem dX3_init_11 : decode cX3_init 11 = .ok (.bipush 15, 2) := by decide +kernel
theorem dX3_init_13 : decode cX3_init 13 = .ok (.putfield 15, 3) := by decide +kernel
theorem dX3_init_16 : decode cX3_init 16 = .ok (.aload_n 0, 1) := by decide +kernel
theorem dX3_init_17 : decode cX3_init 17 = .ok (.iconst 0, 1) := by decide +kernel
theorem dX3_init_18 : decode cX3_init 18 = .ok (.putfield 18, 3) := by decide +kernel
theorem dX3_init_21 : decode cX3_init 21 = .ok (.aload_n 0, 1) := by decide +kernel
theorem dX3_init_22 : decode cX3_init 22 = .ok (.new 22, 3) := by decide +kernel
theorem dX3_init_25 : decode cX3_init 25 = .ok (.dup, 1) := by decide +kernel
theorem dX3_init_26 : decode cX3_init 26 = .ok (.invokespecial 24, 3) := by decide +kernel
theorem dX3_init_29 : decode cX3_init 29 = .ok (.putfield 25, 3) := by decide +kernel
theorem dX3_init_32 : decode cX3_init 32 = .ok (.aload_n 0, 1) := by decide +kernel
theorem dX3_init_33 : decode cX3_init 33 = .ok (.new 22, 3) := by decide +kernel
theorem dX3_init_36 : decode cX3_init 36 = .ok (.dup, 1) := by decide +kernel
theorem dX3_init_37 : decode cX3_init 37 = .ok (.invokespecial 24, 3) := by decide +kernel
theorem dX3_init_40 : decode cX3_init 40 = .ok (.putfield 29, 3) := by decide +kernel
theorem dX3_init_43 : decode cX3_init 43 = .ok (.aload_n 0, 1) := by decide +kernel
theorem dX3_init_44 : decode cX3_init 44 = .ok (.iload_n 1, 1) := by decide +kernel
theorem dX3_init_45 : decode cX3_init 45 = .ok (.putfield 32, 3) := by decide +kernel
theorem dX3_init_48 : decode cX3_init 48 = .ok (.return_, 1) := by decide +kernel
theorem dX3_lane_0 : decode cX3_lane 0 = .ok (.iload_n 1, 1) := by decide +kernel
theorem dX3_lane_1 : decode cX3_lane 1 = .ok (.ifCond .ne 10, 3) := by decide +kernel
theorem dX3_lane_4 : decode cX3_lane 4 = .ok (.aload_n 0, 1) := by decide +kernel
theorem dX3_lane_5 : decode cX3_lane 5 = .ok (.getfield 25, 3) := by decide +kernel
theorem dX3_lane_8 : decode cX3_lane 8 = .ok (.goto 7, 3) := by decide +kernel
theorem dX3_lane_11 : decode cX3_lane 11 = .ok (.aload_n 0, 1) := by decide +kernel
theorem dX3_lane_12 : decode cX3_lane 12 = .ok (.getfield 29, 3) := by decide +kernel
theorem dX3_lane_15 : decode cX3_lane 15 = .ok (.areturn, 1) := by decide +kernel
theorem dX3_waysInside_0 : decode cX3_waysInside 0 = .ok (.aload_n 0, 1) := by decide +kernel
theorem dX3_waysInside_1 : decode cX3_waysInside 1 = .ok (.getfield 25, 3) := by decide +kernel
theorem dX3_waysInside_4 : decode cX3_waysInside 4 = .ok (.getfield 35, 3) := by decide +kernel
theorem dX3_waysInside_7 : decode cX3_waysInside 7 = .ok (.getfield 39, 3) := by decide +kernel
theorem dX3_waysInside_10 : decode cX3_waysInside 10 = .ok (.ifCond .le 7, 3) := by decide +kernel
theorem dX3_waysInside_13 : decode cX3_waysInside 13 = .ok (.iconst 1, 1) := by decide +kernel
theorem dX3_waysInside_14 : decode cX3_waysInside 14 = .ok (.goto 4, 3) := by decide +kernel
theorem dX3_waysInside_17 : decode cX3_waysInside 17 = .ok (.iconst 0, 1) := by decide +kernel
theorem dX3_waysInside_18 : decode cX3_waysInside 18 = .ok (.aload_n 0, 1) := by decide +kernel
theorem dX3_waysInside_19 : decode cX3_waysInside 19 = .ok (.getfield 29, 3) := by decide +kernel
theorem dX3_waysInside_22 : decode cX3_waysInside 22 = .ok (.getfield 35, 3) := by decide +kernel
theorem dX3_waysInside_25 : decode cX3_waysInside 25 = .ok (.getfield 39, 3) := by decide +kernel
theorem dX3_waysInside_28 : decode cX3_waysInside 28 = .ok (.ifCond .le 7, 3) := by decide +kernel
theorem dX3_waysInside_31 : decode cX3_waysInside 31 = .ok (.iconst 1, 1) := by decide +kernel
theorem dX3_waysInside_32 : decode cX3_waysInside 32 = .ok (.goto 4, 3) := by decide +kernel
theorem dX3_waysInside_35 : decode cX3_waysInside 35 = .ok (.iconst 0, 1) := by decide +kernel
theorem dX3_waysInside_36 : decode cX3_waysInside 36 = .ok (.iadd, 1) := by decide +kernel
theorem dX3_waysInside_37 : decode cX3_waysInside 37 = .ok (.ireturn, 1) := by decide +kernel
theorem dX4_init_0 : decode cX4_init 0 = .ok (.aload_n 0, 1) := by decide +kernel
theorem dX4_init_1 : decode cX4_init 1 = .ok (.invokespecial 3, 3) := by decide +kernel
theorem dX4_init_4 : decode cX4_init 4 = .ok (.aload_n 0, 1) := by decide +kernel
theorem dX4_init_5 : decode cX4_init 5 = .ok (.bipush 7, 2) := by decide +kernel
theorem dX4_init_7 : decode cX4_init 7 = .ok (.newarray .int, 2) := by decide +kernel
theorem dX4_init_9 : decode cX4_init 9 = .ok (.putfield 9, 3) := by decide +kernel
theorem dX4_init_12 : decode cX4_init 12 = .ok (.aload_n 0, 1) := by decide +kernel
theorem dX4_init_13 : decode cX4_init 13 = .ok (.iconst (-1), 1) := by decide +kernel
theorem dX4_init_14 : decode cX4_init 14 = .ok (.putfield 15, 3) := by decide +kernel
theorem dX4_init_17 : decode cX4_init 17 = .ok (.aload_n 0, 1) := by decide +kernel
theorem dX4_init_18 : decode cX4_init 18 = .ok (.iconst 0, 1) := by decide +kernel
theorem dX4_init_19 : decode cX4_init 19 = .ok (.putfield 19, 3) := by decide +kernel
theorem dX4_init_22 : decode cX4_init 22 = .ok (.aload_n 0, 1) := by decide +kernel
theorem dX4_init_23 : decode cX4_init 23 = .ok (.iconst 0, 1) := by decide +kernel
theorem dX4_init_24 : decode cX4_init 24 = .ok (.putfield 22, 3) := by decide +kernel
theorem dX4_init_27 : decode cX4_init 27 = .ok (.aload_n 0, 1) := by decide +kernel
theorem dX4_init_28 : decode cX4_init 28 = .ok (.iconst 0, 1) := by decide +kernel
theorem dX4_init_29 : decode cX4_init 29 = .ok (.putfield 26, 3) := by decide +kernel
theorem dX4_init_32 : decode cX4_init 32 = .ok (.aload_n 0, 1) := by decide +kernel
theorem dX4_init_33 : decode cX4_init 33 = .ok (.bipush (-4), 2) := by decide +kernel
theorem dX4_init_35 : decode cX4_init 35 = .ok (.putfield 29, 3) := by decide +kernel
theorem dX4_init_38 : decode cX4_init 38 = .ok (.aload_n 0, 1) := by decide +kernel
theorem dX4_init_39 : decode cX4_init 39 = .ok (.bipush (-4), 2) := by decide +kernel
theorem dX4_init_41 : decode cX4_init 41 = .ok (.putfield 32, 3) := by decide +kernel
theorem dX4_init_44 : decode cX4_init 44 = .ok (.aload_n 0, 1) := by decide +kernel
theorem dX4_init_45 : decode cX4_init 45 = .ok (.bipush (-4), 2) := by decide +kernel
theorem dX4_init_47 : decode cX4_init 47 = .ok (.putfield 35, 3) := by decide +kernel
theorem dX4_init_50 : decode cX4_init 50 = .ok (.aload_n 0, 1) := by decide +kernel
theorem dX4_init_51 : decode cX4_init 51 = .ok (.iconst 0, 1) := by decide +kernel
theorem dX4_init_52 : decode cX4_init 52 = .ok (.putfield 38, 3) := by decide +kernel
theorem dX4_init_55 : decode cX4_init 55 = .ok (.aload_n 0, 1) := by decide +kernel
theorem dX4_init_56 : decode cX4_init 56 = .ok (.iload_n 1, 1) := by decide +kernel
theorem dX4_init_57 : decode cX4_init 57 = .ok (.putfield 41, 3) := by decide +kernel
theorem dX4_init_60 : decode cX4_init 60 = .ok (.aload_n 0, 1) := by decide +kernel
theorem dX4_init_61 : decode cX4_init 61 = .ok (.iload_n 2, 1) := by decide +kernel
theorem dX4_init_62 : decode cX4_init 62 = .ok (.putfield 44, 3) := by decide +kernel
theorem dX4_init_65 : decode cX4_init 65 = .ok (.aload_n 0, 1) := by decide +kernel
theorem dX4_init_66 : decode cX4_init 66 = .ok (.iload_n 3, 1) := by decide +kernel
theorem dX4_init_67 : decode cX4_init 67 = .ok (.putfield 47, 3) := by decide +kernel
theorem dX4_init_70 : decode cX4_init 70 = .ok (.aload_n 0, 1) := by decide +kernel
theorem dX4_init_71 : decode cX4_init 71 = .ok (.iload 4, 2) := by decide +kernel
theorem dX4_init_73 : decode cX4_init 73 = .ok (.putfield 50, 3) := by decide +kernel
theorem dX4_init_76 : decode cX4_init 76 = .ok (.aload_n 0, 1) := by decide +kernel
theorem dX4_init_77 : decode cX4_init 77 = .ok (.iload 5, 2) := by decide +kernel
theorem dX4_init_79 : decode cX4_init 79 = .ok (.putfield 53, 3) := by decide +kernel
theorem dX4_init_82 : decode cX4_init 82 = .ok (.aload_n 0, 1) := by decide +kernel
theorem dX4_init_83 : decode cX4_init 83 = .ok (.iload 6, 2) := by decide +kernel
theorem dX4_init_85 : decode cX4_init 85 = .ok (.putfield 56, 3) := by decide +kernel
theorem dX4_init_88 : decode cX4_init 88 = .ok (.aload_n 0, 1) := by decide +kernel
theorem dX4_init_89 : decode cX4_init 89 = .ok (.iload 7, 2) := by decide +kernel
theorem dX4_init_91 : decode cX4_init 91 = .ok (.putfield 59, 3) := by decide +kernel
theorem dX4_init_94 : decode cX4_init 94 = .ok (.return_, 1) := by decide +kernel
theorem dX4_isInSection_0 : decode cX4_isInSection 0 = .ok (.aload_n 0, 1) := by decide +kernel
theorem dX4_isInSection_1 : decode cX4_isInSection 1 = .ok (.getfield 15, 3) := by decide +kernel
theorem dX4_isInSection_4 : decode cX4_isInSection 4 = .ok (.iconst (-1), 1) := by decide +kernel
theorem dX4_isInSection_5 : decode cX4_isInSection 5 = .ok (.if_icmp .eq 16, 3) := by decide +kernel
theorem dX4_isInSection_8 : decode cX4_isInSection 8 = .ok (.aload_n 0, 1) := by decide +kernel
theorem dX4_isInSection_9 : decode cX4_isInSection 9 = .ok (.getfield 15, 3) := by decide +kernel
theorem dX4_isInSection_12 : decode cX4_isInSection 12 = .ok (.bipush 8, 2) := by decide +kernel
theorem dX4_isInSection_14 : decode cX4_isInSection 14 = .ok (.if_icmp .eq 7, 3) := by decide +kernel
theorem dX4_isInSection_17 : decode cX4_isInSection 17 = .ok (.iconst 1, 1) := by decide +kernel
theorem dX4_isInSection_18 : decode cX4_isInSection 18 = .ok (.goto 4, 3) := by decide +kernel
theorem dX4_isInSection_21 : decode cX4_isInSection 21 = .ok (.iconst 0, 1) := by decide +kernel
theorem dX4_isInSection_22 : decode cX4_isInSection 22 = .ok (.ireturn, 1) := by decide +kernel
theorem dX4_isAground_0 : decode cX4_isAground 0 = .ok (.aload_n 0, 1) := by decide +kernel
theorem dX4_isAground_1 : decode cX4_isAground 1 = .ok (.getfield 38, 3) := by decide +kernel
theorem dX4_isAground_4 : decode cX4_isAground 4 = .ok (.iload_n 1, 1) := by decide +kernel
theorem dX4_isAground_5 : decode cX4_isAground 5 = .ok (.if_icmp .le 7, 3) := by decide +kernel
theorem dX4_isAground_8 : decode cX4_isAground 8 = .ok (.iconst 1, 1) := by decide +kernel
theorem dX4_isAground_9 : decode cX4_isAground 9 = .ok (.goto 4, 3) := by decide +kernel
theorem dX4_isAground_12 : decode cX4_isAground 12 = .ok (.iconst 0, 1) := by decide +kernel
theorem dX4_isAground_13 : decode cX4_isAground 13 = .ok (.ireturn, 1) := by decide +kernel
theorem dX4_waitBy_0 : decode cX4_waitBy 0 = .ok (.iload_n 1, 1) := by decide +kernel
theorem dX4_waitBy_1 : decode cX4_waitBy 1 = .ok (.ifCond .lt 19, 3) := by decide +kernel
theorem dX4_waitBy_4 : decode cX4_waitBy 4 = .ok (.iload_n 1, 1) := by decide +kernel
theorem dX4_waitBy_5 : decode cX4_waitBy 5 = .ok (.bipush 7, 2) := by decide +kernel
theorem dX4_waitBy_7 : decode cX4_waitBy 7 = .ok (.if_icmp .ge 13, 3) := by decide +kernel
theorem dX4_waitBy_10 : decode cX4_waitBy 10 = .ok (.aload_n 0, 1) := by decide +kernel
theorem dX4_waitBy_11 : decode cX4_waitBy 11 = .ok (.getfield 9, 3) := by decide +kernel
theorem dX4_waitBy_14 : decode cX4_waitBy 14 = .ok (.iload_n 1, 1) := by decide +kernel
theorem dX4_waitBy_15 : decode cX4_waitBy 15 = .ok (.dup2, 1) := by decide +kernel
theorem dX4_waitBy_16 : decode cX4_waitBy 16 = .ok (.iaload, 1) := by decide +kernel
theorem dX4_waitBy_17 : decode cX4_waitBy 17 = .ok (.iconst 1, 1) := by decide +kernel
theorem dX4_waitBy_18 : decode cX4_waitBy 18 = .ok (.iadd, 1) := by decide +kernel
theorem dX4_waitBy_19 : decode cX4_waitBy 19 = .ok (.iastore, 1) := by decide +kernel
theorem dX4_waitBy_20 : decode cX4_waitBy 20 = .ok (.return_, 1) := by decide +kernel
theorem dX4_waitedInAll_0 : decode cX4_waitedInAll 0 = .ok (.iconst 0, 1) := by decide +kernel
theorem dX4_waitedInAll_1 : decode cX4_waitedInAll 1 = .ok (.istore_n 1, 1) := by decide +kernel
theorem dX4_waitedInAll_2 : decode cX4_waitedInAll 2 = .ok (.iconst 0, 1) := by decide +kernel
theorem dX4_waitedInAll_3 : decode cX4_waitedInAll 3 = .ok (.istore_n 2, 1) := by decide +kernel
theorem dX4_waitedInAll_4 : decode cX4_waitedInAll 4 = .ok (.iload_n 2, 1) := by decide +kernel
theorem dX4_waitedInAll_5 : decode cX4_waitedInAll 5 = .ok (.bipush 7, 2) := by decide +kernel
theorem dX4_waitedInAll_7 : decode cX4_waitedInAll 7 = .ok (.if_icmp .ge 18, 3) := by decide +kernel
theorem dX4_waitedInAll_10 : decode cX4_waitedInAll 10 = .ok (.iload_n 1, 1) := by decide +kernel
theorem dX4_waitedInAll_11 : decode cX4_waitedInAll 11 = .ok (.aload_n 0, 1) := by decide +kernel
theorem dX4_waitedInAll_12 : decode cX4_waitedInAll 12 = .ok (.getfield 9, 3) := by decide +kernel
theorem dX4_waitedInAll_15 : decode cX4_waitedInAll 15 = .ok (.iload_n 2, 1) := by decide +kernel
theorem dX4_waitedInAll_16 : decode cX4_waitedInAll 16 = .ok (.iaload, 1) := by decide +kernel
theorem dX4_waitedInAll_17 : decode cX4_waitedInAll 17 = .ok (.iadd, 1) := by decide +kernel
theorem dX4_waitedInAll_18 : decode cX4_waitedInAll 18 = .ok (.istore_n 1, 1) := by decide +kernel
theorem dX4_waitedInAll_19 : decode cX4_waitedInAll 19 = .ok (.iinc 2 1, 3) := by decide +kernel
theorem dX4_waitedInAll_22 : decode cX4_waitedInAll 22 = .ok (.goto (-18), 3) := by decide +kernel
theorem dX4_waitedInAll_25 : decode cX4_waitedInAll 25 = .ok (.iload_n 1, 1) := by decide +kernel
theorem dX4_waitedInAll_26 : decode cX4_waitedInAll 26 = .ok (.ireturn, 1) := by decide +kernel
theorem dX4_counts_0 : decode cX4_counts 0 = .ok (.iload_n 1, 1) := by decide +kernel
theorem dX4_counts_1 : decode cX4_counts 1 = .ok (.tableswitch 61 3 6 #[31, 46, 51, 56], 31) := by decide +kernel
theorem dX4_counts_32 : decode cX4_counts 32 = .ok (.aload_n 0, 1) := by decide +kernel
theorem dX4_counts_33 : decode cX4_counts 33 = .ok (.getfield 15, 3) := by decide +kernel
theorem dX4_counts_36 : decode cX4_counts 36 = .ok (.bipush 8, 2) := by decide +kernel
theorem dX4_counts_38 : decode cX4_counts 38 = .ok (.if_icmp .ne 7, 3) := by decide +kernel
theorem dX4_counts_41 : decode cX4_counts 41 = .ok (.iconst 1, 1) := by decide +kernel
theorem dX4_counts_42 : decode cX4_counts 42 = .ok (.goto 4, 3) := by decide +kernel
theorem dX4_counts_45 : decode cX4_counts 45 = .ok (.iconst 0, 1) := by decide +kernel
theorem dX4_counts_46 : decode cX4_counts 46 = .ok (.ireturn, 1) := by decide +kernel
theorem dX4_counts_47 : decode cX4_counts 47 = .ok (.aload_n 0, 1) := by decide +kernel
theorem dX4_counts_48 : decode cX4_counts 48 = .ok (.getfield 26, 3) := by decide +kernel
theorem dX4_counts_51 : decode cX4_counts 51 = .ok (.ireturn, 1) := by decide +kernel
theorem dX4_counts_52 : decode cX4_counts 52 = .ok (.aload_n 0, 1) := by decide +kernel
theorem dX4_counts_53 : decode cX4_counts 53 = .ok (.getfield 22, 3) := by decide +kernel
theorem dX4_counts_56 : decode cX4_counts 56 = .ok (.ireturn, 1) := by decide +kernel
theorem dX4_counts_57 : decode cX4_counts 57 = .ok (.aload_n 0, 1) := by decide +kernel
theorem dX4_counts_58 : decode cX4_counts 58 = .ok (.invokevirtual 62, 3) := by decide +kernel
theorem dX4_counts_61 : decode cX4_counts 61 = .ok (.ireturn, 1) := by decide +kernel
theorem dX4_counts_62 : decode cX4_counts 62 = .ok (.iconst 0, 1) := by decide +kernel
theorem dX4_counts_63 : decode cX4_counts 63 = .ok (.ireturn, 1) := by decide +kernel
theorem dX4_dues_0 : decode cX4_dues 0 = .ok (.aload_n 0, 1) := by decide +kernel
theorem dX4_dues_1 : decode cX4_dues 1 = .ok (.getfield 59, 3) := by decide +kernel
theorem dX4_dues_4 : decode cX4_dues 4 = .ok (.sipush 5000, 3) := by decide +kernel
theorem dX4_dues_7 : decode cX4_dues 7 = .ok (.invokestatic 66, 3) := by decide +kernel
theorem dX4_dues_10 : decode cX4_dues 10 = .ok (.istore_n 1, 1) := by decide +kernel
theorem dX4_dues_11 : decode cX4_dues 11 = .ok (.aload_n 0, 1) := by decide +kernel
theorem dX4_dues_12 : decode cX4_dues 12 = .ok (.getfield 59, 3) := by decide +kernel
theorem dX4_dues_15 : decode cX4_dues 15 = .ok (.iload_n 1, 1) := by decide +kernel
theorem dX4_dues_16 : decode cX4_dues 16 = .ok (.isub, 1) := by decide +kernel
theorem dX4_dues_17 : decode cX4_dues 17 = .ok (.sipush 15000, 3) := by decide +kernel
theorem dX4_dues_20 : decode cX4_dues 20 = .ok (.invokestatic 66, 3) := by decide +kernel
theorem dX4_dues_23 : decode cX4_dues 23 = .ok (.istore_n 2, 1) := by decide +kernel
theorem dX4_dues_24 : decode cX4_dues 24 = .ok (.iconst 3, 1) := by decide +kernel
theorem dX4_dues_25 : decode cX4_dues 25 = .ok (.iload_n 1, 1) := by decide +kernel
theorem dX4_dues_26 : decode cX4_dues 26 = .ok (.imul, 1) := by decide +kernel
theorem dX4_dues_27 : decode cX4_dues 27 = .ok (.iconst 2, 1) := by decide +kernel
theorem dX4_dues_28 : decode cX4_dues 28 = .ok (.iload_n 2, 1) := by decide +kernel
theorem dX4_dues_29 : decode cX4_dues 29 = .ok (.imul, 1) := by decide +kernel
theorem dX4_dues_30 : decode cX4_dues 30 = .ok (.iadd, 1) := by decide +kernel
theorem dX4_dues_31 : decode cX4_dues 31 = .ok (.aload_n 0, 1) := by decide +kernel
theorem dX4_dues_32 : decode cX4_dues 32 = .ok (.getfield 59, 3) := by decide +kernel
theorem dX4_dues_35 : decode cX4_dues 35 = .ok (.iload_n 1, 1) := by decide +kernel
theorem dX4_dues_36 : decode cX4_dues 36 = .ok (.isub, 1) := by decide +kernel
theorem dX4_dues_37 : decode cX4_dues 37 = .ok (.iload_n 2, 1) := by decide +kernel
theorem dX4_dues_38 : decode cX4_dues 38 = .ok (.isub, 1) := by decide +kernel
theorem dX4_dues_39 : decode cX4_dues 39 = .ok (.iadd, 1) := by decide +kernel
theorem dX4_dues_40 : decode cX4_dues 40 = .ok (.istore_n 3, 1) := by decide +kernel
theorem dX4_dues_41 : decode cX4_dues 41 = .ok (.aload_n 0, 1) := by decide +kernel
theorem dX4_dues_42 : decode cX4_dues 42 = .ok (.getfield 22, 3) := by decide +kernel
theorem dX4_dues_45 : decode cX4_dues 45 = .ok (.ifCond .eq 10, 3) := by decide +kernel
theorem dX4_dues_48 : decode cX4_dues 48 = .ok (.iload_n 3, 1) := by decide +kernel
theorem dX4_dues_49 : decode cX4_dues 49 = .ok (.iload_n 3, 1) := by decide +kernel
theorem dX4_dues_50 : decode cX4_dues 50 = .ok (.bipush 10, 2) := by decide +kernel
theorem dX4_dues_52 : decode cX4_dues 52 = .ok (.idiv, 1) := by decide +kernel
theorem dX4_dues_53 : decode cX4_dues 53 = .ok (.iadd, 1) := by decide +kernel
theorem dX4_dues_54 : decode cX4_dues 54 = .ok (.istore_n 3, 1) := by decide +kernel
theorem dX4_dues_55 : decode cX4_dues 55 = .ok (.aload_n 0, 1) := by decide +kernel
theorem dX4_dues_56 : decode cX4_dues 56 = .ok (.getfield 9, 3) := by decide +kernel
theorem dX4_dues_59 : decode cX4_dues 59 = .ok (.iconst 0, 1) := by decide +kernel
theorem dX4_dues_60 : decode cX4_dues 60 = .ok (.iaload, 1) := by decide +kernel
theorem dX4_dues_61 : decode cX4_dues 61 = .ok (.bipush 60, 2) := by decide +kernel
theorem dX4_dues_63 : decode cX4_dues 63 = .ok (.if_icmp .le 10, 3) := by decide +kernel
theorem dX4_dues_66 : decode cX4_dues 66 = .ok (.iload_n 3, 1) := by decide +kernel
theorem dX4_dues_67 : decode cX4_dues 67 = .ok (.iload_n 3, 1) := by decide +kernel
theorem dX4_dues_68 : decode cX4_dues 68 = .ok (.bipush 20, 2) := by decide +kernel
theorem dX4_dues_70 : decode cX4_dues 70 = .ok (.idiv, 1) := by decide +kernel
theorem dX4_dues_71 : decode cX4_dues 71 = .ok (.isub, 1) := by decide +kernel
theorem dX4_dues_72 : decode cX4_dues 72 = .ok (.istore_n 3, 1) := by decide +kernel
theorem dX4_dues_73 : decode cX4_dues 73 = .ok (.iload_n 3, 1) := by decide +kernel
theorem dX4_dues_74 : decode cX4_dues 74 = .ok (.ireturn, 1) := by decide +kernel
theorem dX5_init_0 : decode cX5_init 0 = .ok (.aload_n 0, 1) := by decide +kernel
theorem dX5_init_1 : decode cX5_init 1 = .ok (.invokespecial 3, 3) := by decide +kernel
theorem dX5_init_4 : decode cX5_init 4 = .ok (.aload_n 0, 1) := by decide +kernel
theorem dX5_init_5 : decode cX5_init 5 = .ok (.bipush 8, 2) := by decide +kernel
theorem dX5_init_7 : decode cX5_init 7 = .ok (.anewarray 9, 3) := by decide +kernel
theorem dX5_init_10 : decode cX5_init 10 = .ok (.putfield 11, 3) := by decide +kernel
theorem dX5_init_13 : decode cX5_init 13 = .ok (.aload_n 0, 1) := by decide +kernel
theorem dX5_init_14 : decode cX5_init 14 = .ok (.bipush 24, 2) := by decide +kernel
theorem dX5_init_16 : decode cX5_init 16 = .ok (.newarray .int, 2) := by decide +kernel
theorem dX5_init_18 : decode cX5_init 18 = .ok (.putfield 15, 3) := by decide +kernel
theorem dX5_init_21 : decode cX5_init 21 = .ok (.aload_n 0, 1) := by decide +kernel
theorem dX5_init_22 : decode cX5_init 22 = .ok (.bipush 24, 2) := by decide +kernel
theorem dX5_init_24 : decode cX5_init 24 = .ok (.newarray .int, 2) := by decide +kernel
theorem dX5_init_26 : decode cX5_init 26 = .ok (.putfield 19, 3) := by decide +kernel
theorem dX5_init_29 : decode cX5_init 29 = .ok (.aload_n 0, 1) := by decide +kernel
theorem dX5_init_30 : decode cX5_init 30 = .ok (.new 22, 3) := by decide +kernel
theorem dX5_init_33 : decode cX5_init 33 = .ok (.dup, 1) := by decide +kernel
theorem dX5_init_34 : decode cX5_init 34 = .ok (.bipush 30, 2) := by decide +kernel
theorem dX5_init_36 : decode cX5_init 36 = .ok (.invokespecial 24, 3) := by decide +kernel
theorem dX5_init_39 : decode cX5_init 39 = .ok (.putfield 27, 3) := by decide +kernel
theorem dX5_init_42 : decode cX5_init 42 = .ok (.aload_n 0, 1) := by decide +kernel
theorem dX5_init_43 : decode cX5_init 43 = .ok (.bipush 12, 2) := by decide +kernel
theorem dX5_init_45 : decode cX5_init 45 = .ok (.anewarray 31, 3) := by decide +kernel
theorem dX5_init_48 : decode cX5_init 48 = .ok (.putfield 33, 3) := by decide +kernel
theorem dX5_init_51 : decode cX5_init 51 = .ok (.aload_n 0, 1) := by decide +kernel
theorem dX5_init_52 : decode cX5_init 52 = .ok (.iconst 0, 1) := by decide +kernel
theorem dX5_init_53 : decode cX5_init 53 = .ok (.putfield 37, 3) := by decide +kernel
theorem dX5_init_56 : decode cX5_init 56 = .ok (.aload_n 0, 1) := by decide +kernel
theorem dX5_init_57 : decode cX5_init 57 = .ok (.new 22, 3) := by decide +kernel
theorem dX5_init_60 : decode cX5_init 60 = .ok (.dup, 1) := by decide +kernel
theorem dX5_init_61 : decode cX5_init 61 = .ok (.bipush 30, 2) := by decide +kernel
theorem dX5_init_63 : decode cX5_init 63 = .ok (.invokespecial 24, 3) := by decide +kernel
theorem dX5_init_66 : decode cX5_init 66 = .ok (.putfield 41, 3) := by decide +kernel
theorem dX5_init_69 : decode cX5_init 69 = .ok (.aload_n 0, 1) := by decide +kernel
theorem dX5_init_70 : decode cX5_init 70 = .ok (.new 22, 3) := by decide +kernel
theorem dX5_init_73 : decode cX5_init 73 = .ok (.dup, 1) := by decide +kernel
theorem dX5_init_74 : decode cX5_init 74 = .ok (.bipush 30, 2) := by decide +kernel
theorem dX5_init_76 : decode cX5_init 76 = .ok (.invokespecial 24, 3) := by decide +kernel
theorem dX5_init_79 : decode cX5_init 79 = .ok (.putfield 44, 3) := by decide +kernel
theorem dX5_init_82 : decode cX5_init 82 = .ok (.aload_n 0, 1) := by decide +kernel
theorem dX5_init_83 : decode cX5_init 83 = .ok (.iconst 5, 1) := by decide +kernel
theorem dX5_init_84 : decode cX5_init 84 = .ok (.putfield 47, 3) := by decide +kernel
theorem dX5_init_87 : decode cX5_init 87 = .ok (.aload_n 0, 1) := by decide +kernel
theorem dX5_init_88 : decode cX5_init 88 = .ok (.iconst 0, 1) := by decide +kernel
theorem dX5_init_89 : decode cX5_init 89 = .ok (.putfield 50, 3) := by decide +kernel
theorem dX5_init_92 : decode cX5_init 92 = .ok (.aload_n 0, 1) := by decide +kernel
theorem dX5_init_93 : decode cX5_init 93 = .ok (.iconst 0, 1) := by decide +kernel
theorem dX5_init_94 : decode cX5_init 94 = .ok (.putfield 53, 3) := by decide +kernel
theorem dX5_init_97 : decode cX5_init 97 = .ok (.iconst 0, 1) := by decide +kernel
theorem dX5_init_98 : decode cX5_init 98 = .ok (.istore_n 1, 1) := by decide +kernel
theorem dX5_init_99 : decode cX5_init 99 = .ok (.iload_n 1, 1) := by decide +kernel
theorem dX5_init_100 : decode cX5_init 100 = .ok (.bipush 8, 2) := by decide +kernel
theorem dX5_init_102 : decode cX5_init 102 = .ok (.if_icmp .ge 23, 3) := by decide +kernel
theorem dX5_init_105 : decode cX5_init 105 = .ok (.aload_n 0, 1) := by decide +kernel
theorem dX5_init_106 : decode cX5_init 106 = .ok (.getfield 11, 3) := by decide +kernel
theorem dX5_init_109 : decode cX5_init 109 = .ok (.iload_n 1, 1) := by decide +kernel
theorem dX5_init_110 : decode cX5_init 110 = .ok (.new 9, 3) := by decide +kernel
theorem dX5_init_113 : decode cX5_init 113 = .ok (.dup, 1) := by decide +kernel
theorem dX5_init_114 : decode cX5_init 114 = .ok (.iload_n 1, 1) := by decide +kernel
theorem dX5_init_115 : decode cX5_init 115 = .ok (.invokespecial 56, 3) := by decide +kernel
theorem dX5_init_118 : decode cX5_init 118 = .ok (.aastore, 1) := by decide +kernel
theorem dX5_init_119 : decode cX5_init 119 = .ok (.iinc 1 1, 3) := by decide +kernel
theorem dX5_init_122 : decode cX5_init 122 = .ok (.goto (-23), 3) := by decide +kernel
theorem dX5_init_125 : decode cX5_init 125 = .ok (.return_, 1) := by decide +kernel
theorem dX5_section_0 : decode cX5_section 0 = .ok (.aload_n 0, 1) := by decide +kernel
theorem dX5_section_1 : decode cX5_section 1 = .ok (.iload_n 1, 1) := by decide +kernel
theorem dX5_section_2 : decode cX5_section 2 = .ok (.invokevirtual 57, 3) := by decide +kernel
theorem dX5_section_5 : decode cX5_section 5 = .ok (.astore 5, 2) := by decide +kernel
theorem dX5_section_7 : decode cX5_section 7 = .ok (.aload 5, 2) := by decide +kernel
theorem dX5_section_9 : decode cX5_section 9 = .ok (.ifnull 23, 3) := by decide +kernel
theorem dX5_section_12 : decode cX5_section 12 = .ok (.iload_n 2, 1) := by decide +kernel
theorem dX5_section_13 : decode cX5_section 13 = .ok (.iconst 1, 1) := by decide +kernel
theorem dX5_section_14 : decode cX5_section 14 = .ok (.bipush 60, 2) := by decide +kernel
theorem dX5_section_16 : decode cX5_section 16 = .ok (.invokestatic 61, 3) := by decide +kernel
theorem dX5_section_19 : decode cX5_section 19 = .ok (.ifCond .eq 13, 3) := by decide +kernel
theorem dX5_section_22 : decode cX5_section 22 = .ok (.iload_n 3, 1) := by decide +kernel
theorem dX5_section_23 : decode cX5_section 23 = .ok (.iconst 1, 1) := by decide +kernel
theorem dX5_section_24 : decode cX5_section 24 = .ok (.bipush 40, 2) := by decide +kernel
theorem dX5_section_26 : decode cX5_section 26 = .ok (.invokestatic 61, 3) := by decide +kernel
theorem dX5_section_29 : decode cX5_section 29 = .ok (.ifCond .ne 5, 3) := by decide +kernel
theorem dX5_section_32 : decode cX5_section 32 = .ok (.iconst (-1), 1) := by decide +kernel
theorem dX5_section_33 : decode cX5_section 33 = .ok (.ireturn, 1) := by decide +kernel
theorem dX5_section_34 : decode cX5_section 34 = .ok (.aload_n 0, 1) := by decide +kernel
theorem dX5_section_35 : decode cX5_section 35 = .ok (.getfield 53, 3) := by decide +kernel
theorem dX5_section_38 : decode cX5_section 38 = .ok (.ifCond .le 6, 3) := by decide +kernel
theorem dX5_section_41 : decode cX5_section 41 = .ok (.bipush (-2), 2) := by decide +kernel
theorem dX5_section_43 : decode cX5_section 43 = .ok (.ireturn, 1) := by decide +kernel
theorem dX5_section_44 : decode cX5_section 44 = .ok (.aload 5, 2) := by decide +kernel
theorem dX5_section_46 : decode cX5_section 46 = .ok (.iload_n 2, 1) := by decide +kernel
theorem dX5_section_47 : decode cX5_section 47 = .ok (.putfield 65, 3) := by decide +kernel
theorem dX5_section_50 : decode cX5_section 50 = .ok (.aload 5, 2) := by decide +kernel
theorem dX5_section_52 : decode cX5_section 52 = .ok (.iload_n 3, 1) := by decide +kernel
theorem dX5_section_53 : decode cX5_section 53 = .ok (.putfield 68, 3) := by decide +kernel
theorem dX5_section_56 : decode cX5_section 56 = .ok (.aload 5, 2) := by decide +kernel
theorem dX5_section_58 : decode cX5_section 58 = .ok (.iload 4, 2) := by decide +kernel
theorem dX5_section_60 : decode cX5_section 60 = .ok (.putfield 71, 3) := by decide +kernel
theorem dX5_section_63 : decode cX5_section 63 = .ok (.iconst 0, 1) := by decide +kernel
theorem dX5_section_64 : decode cX5_section 64 = .ok (.ireturn, 1) := by decide +kernel
theorem dX5_tide_0 : decode cX5_tide 0 = .ok (.iload_n 1, 1) := by decide +kernel
theorem dX5_tide_1 : decode cX5_tide 1 = .ok (.iconst 0, 1) := by decide +kernel
theorem dX5_tide_2 : decode cX5_tide 2 = .ok (.bipush 23, 2) := by decide +kernel
theorem dX5_tide_4 : decode cX5_tide 4 = .ok (.invokestatic 61, 3) := by decide +kernel
theorem dX5_tide_7 : decode cX5_tide 7 = .ok (.ifCond .eq 13, 3) := by decide +kernel
theorem dX5_tide_10 : decode cX5_tide 10 = .ok (.iload_n 2, 1) := by decide +kernel
theorem dX5_tide_11 : decode cX5_tide 11 = .ok (.iconst 0, 1) := by decide +kernel
theorem dX5_tide_12 : decode cX5_tide 12 = .ok (.bipush 9, 2) := by decide +kernel
theorem dX5_tide_14 : decode cX5_tide 14 = .ok (.invokestatic 61, 3) := by decide +kernel
theorem dX5_tide_17 : decode cX5_tide 17 = .ok (.ifCond .ne 5, 3) := by decide +kernel
theorem dX5_tide_20 : decode cX5_tide 20 = .ok (.iconst (-1), 1) := by decide +kernel
theorem dX5_tide_21 : decode cX5_tide 21 = .ok (.ireturn, 1) := by decide +kernel
theorem dX5_tide_22 : decode cX5_tide 22 = .ok (.aload_n 0, 1) := by decide +kernel
theorem dX5_tide_23 : decode cX5_tide 23 = .ok (.getfield 15, 3) := by decide +kernel
theorem dX5_tide_26 : decode cX5_tide 26 = .ok (.iload_n 1, 1) := by decide +kernel
theorem dX5_tide_27 : decode cX5_tide 27 = .ok (.iaload, 1) := by decide +kernel
theorem dX5_tide_28 : decode cX5_tide 28 = .ok (.istore_n 3, 1) := by decide +kernel
theorem dX5_tide_29 : decode cX5_tide 29 = .ok (.aload_n 0, 1) := by decide +kernel
theorem dX5_tide_30 : decode cX5_tide 30 = .ok (.getfield 15, 3) := by decide +kernel
theorem dX5_tide_33 : decode cX5_tide 33 = .ok (.iload_n 1, 1) := by decide +kernel
theorem dX5_tide_34 : decode cX5_tide 34 = .ok (.iload_n 2, 1) := by decide +kernel
theorem dX5_tide_35 : decode cX5_tide 35 = .ok (.iastore, 1) := by decide +kernel
theorem dX5_tide_36 : decode cX5_tide 36 = .ok (.iload_n 3, 1) := by decide +kernel
theorem dX5_tide_37 : decode cX5_tide 37 = .ok (.ireturn, 1) := by decide +kernel
theorem dX5_wind_0 : decode cX5_wind 0 = .ok (.iload_n 1, 1) := by decide +kernel
theorem dX5_wind_1 : decode cX5_wind 1 = .ok (.iconst 0, 1) := by decide +kernel
theorem dX5_wind_2 : decode cX5_wind 2 = .ok (.bipush 23, 2) := by decide +kernel
theorem dX5_wind_4 : decode cX5_wind 4 = .ok (.invokestatic 61, 3) := by decide +kernel
theorem dX5_wind_7 : decode cX5_wind 7 = .ok (.ifCond .eq 13, 3) := by decide +kernel
theorem dX5_wind_10 : decode cX5_wind 10 = .ok (.iload_n 2, 1) := by decide +kernel
theorem dX5_wind_11 : decode cX5_wind 11 = .ok (.iconst (-1), 1) := by decide +kernel
theorem dX5_wind_12 : decode cX5_wind 12 = .ok (.bipush 12, 2) := by decide +kernel
theorem dX5_wind_14 : decode cX5_wind 14 = .ok (.invokestatic 61, 3) := by decide +kernel
theorem dX5_wind_17 : decode cX5_wind 17 = .ok (.ifCond .ne 6, 3) := by decide +kernel
theorem dX5_wind_20 : decode cX5_wind 20 = .ok (.bipush (-9), 2) := by decide +kernel
theorem dX5_wind_22 : decode cX5_wind 22 = .ok (.ireturn, 1) := by decide +kernel
theorem dX5_wind_23 : decode cX5_wind 23 = .ok (.aload_n 0, 1) := by decide +kernel
theorem dX5_wind_24 : decode cX5_wind 24 = .ok (.getfield 19, 3) := by decide +kernel
theorem dX5_wind_27 : decode cX5_wind 27 = .ok (.iload_n 1, 1) := by decide +kernel
theorem dX5_wind_28 : decode cX5_wind 28 = .ok (.iaload, 1) := by decide +kernel
theorem dX5_wind_29 : decode cX5_wind 29 = .ok (.istore_n 3, 1) := by decide +kernel
theorem dX5_wind_30 : decode cX5_wind 30 = .ok (.aload_n 0, 1) := by decide +kernel
theorem dX5_wind_31 : decode cX5_wind 31 = .ok (.getfield 19, 3) := by decide +kernel
theorem dX5_wind_34 : decode cX5_wind 34 = .ok (.iload_n 1, 1) := by decide +kernel
theorem dX5_wind_35 : decode cX5_wind 35 = .ok (.iload_n 2, 1) := by decide +kernel
theorem dX5_wind_36 : decode cX5_wind 36 = .ok (.iastore, 1) := by decide +kernel
theorem dX5_wind_37 : decode cX5_wind 37 = .ok (.iload_n 3, 1) := by decide +kernel
theorem dX5_wind_38 : decode cX5_wind 38 = .ok (.ireturn, 1) := by decide +kernel
theorem dX5_rule_0 : decode cX5_rule 0 = .ok (.iload_n 1, 1) := by decide +kernel
theorem dX5_rule_1 : decode cX5_rule 1 = .ok (.ifCond .ne 25, 3) := by decide +kernel
theorem dX5_rule_4 : decode cX5_rule 4 = .ok (.iload_n 2, 1) := by decide +kernel
theorem dX5_rule_5 : decode cX5_rule 5 = .ok (.iconst 0, 1) := by decide +kernel
theorem dX5_rule_6 : decode cX5_rule 6 = .ok (.bipush 60, 2) := by decide +kernel
theorem dX5_rule_8 : decode cX5_rule 8 = .ok (.invokestatic 61, 3) := by decide +kernel
theorem dX5_rule_11 : decode cX5_rule 11 = .ok (.ifCond .eq 15, 3) := by decide +kernel
theorem dX5_rule_14 : decode cX5_rule 14 = .ok (.aload_n 0, 1) := by decide +kernel
theorem dX5_rule_15 : decode cX5_rule 15 = .ok (.getfield 47, 3) := by decide +kernel
theorem dX5_rule_18 : decode cX5_rule 18 = .ok (.istore_n 3, 1) := by decide +kernel
theorem dX5_rule_19 : decode cX5_rule 19 = .ok (.aload_n 0, 1) := by decide +kernel
theorem dX5_rule_20 : decode cX5_rule 20 = .ok (.iload_n 2, 1) := by decide +kernel
theorem dX5_rule_21 : decode cX5_rule 21 = .ok (.putfield 47, 3) := by decide +kernel
theorem dX5_rule_24 : decode cX5_rule 24 = .ok (.iload_n 3, 1) := by decide +kernel
theorem dX5_rule_25 : decode cX5_rule 25 = .ok (.ireturn, 1) := by decide +kernel
theorem dX5_rule_26 : decode cX5_rule 26 = .ok (.iload_n 1, 1) := by decide +kernel
theorem dX5_rule_27 : decode cX5_rule 27 = .ok (.iconst 1, 1) := by decide +kernel
theorem dX5_rule_28 : decode cX5_rule 28 = .ok (.if_icmp .ne 24, 3) := by decide +kernel
theorem dX5_rule_31 : decode cX5_rule 31 = .ok (.iload_n 2, 1) := by decide +kernel
theorem dX5_rule_32 : decode cX5_rule 32 = .ok (.iconst 0, 1) := by decide +kernel
theorem dX5_rule_33 : decode cX5_rule 33 = .ok (.iconst 1, 1) := by decide +kernel
theorem dX5_rule_34 : decode cX5_rule 34 = .ok (.invokestatic 61, 3) := by decide +kernel
theorem dX5_rule_37 : decode cX5_rule 37 = .ok (.ifCond .eq 15, 3) := by decide +kernel
theorem dX5_rule_40 : decode cX5_rule 40 = .ok (.aload_n 0, 1) := by decide +kernel
theorem dX5_rule_41 : decode cX5_rule 41 = .ok (.getfield 50, 3) := by decide +kernel
theorem dX5_rule_44 : decode cX5_rule 44 = .ok (.istore_n 3, 1) := by decide +kernel
theorem dX5_rule_45 : decode cX5_rule 45 = .ok (.aload_n 0, 1) := by decide +kernel
theorem dX5_rule_46 : decode cX5_rule 46 = .ok (.iload_n 2, 1) := by decide +kernel
theorem dX5_rule_47 : decode cX5_rule 47 = .ok (.putfield 50, 3) := by decide +kernel
theorem dX5_rule_50 : decode cX5_rule 50 = .ok (.iload_n 3, 1) := by decide +kernel
theorem dX5_rule_51 : decode cX5_rule 51 = .ok (.ireturn, 1) := by decide +kernel
theorem dX5_rule_52 : decode cX5_rule 52 = .ok (.iconst (-1), 1) := by decide +kernel
theorem dX5_rule_53 : decode cX5_rule 53 = .ok (.ireturn, 1) := by decide +kernel
theorem dX5_ship_0 : decode cX5_ship 0 = .ok (.iload_n 1, 1) := by decide +kernel
theorem dX5_ship_1 : decode cX5_ship 1 = .ok (.invokestatic 75, 3) := by decide +kernel
theorem dX5_ship_4 : decode cX5_ship 4 = .ok (.ifCond .eq 36, 3) := by decide +kernel
theorem dX5_ship_7 : decode cX5_ship 7 = .ok (.iload_n 2, 1) := by decide +kernel
theorem dX5_ship_8 : decode cX5_ship 8 = .ok (.iconst 0, 1) := by decide +kernel
theorem dX5_ship_9 : decode cX5_ship 9 = .ok (.sipush 9999, 3) := by decide +kernel
theorem dX5_ship_12 : decode cX5_ship 12 = .ok (.invokestatic 61, 3) := by decide +kernel
theorem dX5_ship_15 : decode cX5_ship 15 = .ok (.ifCond .eq 25, 3) := by decide +kernel
theorem dX5_ship_18 : decode cX5_ship 18 = .ok (.iload 4, 2) := by decide +kernel
theorem dX5_ship_20 : decode cX5_ship 20 = .ok (.iconst 1, 1) := by decide +kernel
theorem dX5_ship_21 : decode cX5_ship 21 = .ok (.bipush 45, 2) := by decide +kernel
theorem dX5_ship_23 : decode cX5_ship 23 = .ok (.invokestatic 61, 3) := by decide +kernel
theorem dX5_ship_26 : decode cX5_ship 26 = .ok (.ifCond .eq 14, 3) := by decide +kernel
theorem dX5_ship_29 : decode cX5_ship 29 = .ok (.iload 6, 2) := by decide +kernel
theorem dX5_ship_31 : decode cX5_ship 31 = .ok (.iconst 1, 1) := by decide +kernel
theorem dX5_ship_32 : decode cX5_ship 32 = .ok (.ldc 79, 2) := by decide +kernel
theorem dX5_ship_34 : decode cX5_ship 34 = .ok (.invokestatic 61, 3) := by decide +kernel
theorem dX5_ship_37 : decode cX5_ship 37 = .ok (.ifCond .ne 5, 3) := by decide +kernel
theorem dX5_ship_40 : decode cX5_ship 40 = .ok (.iconst (-1), 1) := by decide +kernel
theorem dX5_ship_41 : decode cX5_ship 41 = .ok (.ireturn, 1) := by decide +kernel
theorem dX5_ship_42 : decode cX5_ship 42 = .ok (.iload_n 2, 1) := by decide +kernel
theorem dX5_ship_43 : decode cX5_ship 43 = .ok (.aload_n 0, 1) := by decide +kernel
theorem dX5_ship_44 : decode cX5_ship 44 = .ok (.getfield 53, 3) := by decide +kernel
theorem dX5_ship_47 : decode cX5_ship 47 = .ok (.if_icmp .ge 6, 3) := by decide +kernel
theorem dX5_ship_50 : decode cX5_ship 50 = .ok (.bipush (-2), 2) := by decide +kernel
theorem dX5_ship_52 : decode cX5_ship 52 = .ok (.ireturn, 1) := by decide +kernel
theorem dX5_ship_53 : decode cX5_ship 53 = .ok (.aload_n 0, 1) := by decide +kernel
theorem dX5_ship_54 : decode cX5_ship 54 = .ok (.getfield 27, 3) := by decide +kernel
theorem dX5_ship_57 : decode cX5_ship 57 = .ok (.invokevirtual 80, 3) := by decide +kernel
theorem dX5_ship_60 : decode cX5_ship 60 = .ok (.ifCond .eq 6, 3) := by decide +kernel
theorem dX5_ship_63 : decode cX5_ship 63 = .ok (.bipush (-3), 2) := by decide +kernel
theorem dX5_ship_65 : decode cX5_ship 65 = .ok (.ireturn, 1) := by decide +kernel
theorem dX5_ship_66 : decode cX5_ship 66 = .ok (.aload_n 0, 1) := by decide +kernel
theorem dX5_ship_67 : decode cX5_ship 67 = .ok (.getfield 27, 3) := by decide +kernel
theorem dX5_ship_70 : decode cX5_ship 70 = .ok (.getfield 84, 3) := by decide +kernel
theorem dX5_ship_73 : decode cX5_ship 73 = .ok (.istore 7, 2) := by decide +kernel
theorem dX5_ship_75 : decode cX5_ship 75 = .ok (.aload_n 0, 1) := by decide +kernel
theorem dX5_ship_76 : decode cX5_ship 76 = .ok (.getfield 27, 3) := by decide +kernel
theorem dX5_ship_79 : decode cX5_ship 79 = .ok (.new 87, 3) := by decide +kernel
theorem dX5_ship_82 : decode cX5_ship 82 = .ok (.dup, 1) := by decide +kernel
theorem dX5_ship_83 : decode cX5_ship 83 = .ok (.iload 7, 2) := by decide +kernel
theorem dX5_ship_85 : decode cX5_ship 85 = .ok (.iload_n 1, 1) := by decide +kernel
theorem dX5_ship_86 : decode cX5_ship 86 = .ok (.iload_n 2, 1) := by decide +kernel
theorem dX5_ship_87 : decode cX5_ship 87 = .ok (.iload_n 3, 1) := by decide +kernel
theorem dX5_ship_88 : decode cX5_ship 88 = .ok (.iload 4, 2) := by decide +kernel
theorem dX5_ship_90 : decode cX5_ship 90 = .ok (.iload 5, 2) := by decide +kernel
theorem dX5_ship_92 : decode cX5_ship 92 = .ok (.iload 6, 2) := by decide +kernel
theorem dX5_ship_94 : decode cX5_ship 94 = .ok (.invokespecial 89, 3) := by decide +kernel
theorem dX5_ship_97 : decode cX5_ship 97 = .ok (.invokevirtual 92, 3) := by decide +kernel
theorem dX5_ship_100 : decode cX5_ship 100 = .ok (.iload 7, 2) := by decide +kernel
theorem dX5_ship_102 : decode cX5_ship 102 = .ok (.ireturn, 1) := by decide +kernel
theorem dX5_convoy_0 : decode cX5_convoy 0 = .ok (.iload_n 1, 1) := by decide +kernel
theorem dX5_convoy_1 : decode cX5_convoy 1 = .ok (.invokestatic 75, 3) := by decide +kernel
theorem dX5_convoy_4 : decode cX5_convoy 4 = .ok (.ifCond .eq 14, 3) := by decide +kernel
theorem dX5_convoy_7 : decode cX5_convoy 7 = .ok (.iload_n 2, 1) := by decide +kernel
theorem dX5_convoy_8 : decode cX5_convoy 8 = .ok (.iconst 0, 1) := by decide +kernel
theorem dX5_convoy_9 : decode cX5_convoy 9 = .ok (.sipush 9999, 3) := by decide +kernel
theorem dX5_convoy_12 : decode cX5_convoy 12 = .ok (.invokestatic 61, 3) := by decide +kernel
theorem dX5_convoy_15 : decode cX5_convoy 15 = .ok (.ifCond .ne 5, 3) := by decide +kernel
theorem dX5_convoy_18 : decode cX5_convoy 18 = .ok (.iconst (-1), 1) := by decide +kernel
theorem dX5_convoy_19 : decode cX5_convoy 19 = .ok (.ireturn, 1) := by decide +kernel
theorem dX5_convoy_20 : decode cX5_convoy 20 = .ok (.iload_n 2, 1) := by decide +kernel
theorem dX5_convoy_21 : decode cX5_convoy 21 = .ok (.aload_n 0, 1) := by decide +kernel
theorem dX5_convoy_22 : decode cX5_convoy 22 = .ok (.getfield 53, 3) := by decide +kernel
theorem dX5_convoy_25 : decode cX5_convoy 25 = .ok (.if_icmp .gt 6, 3) := by decide +kernel
theorem dX5_convoy_28 : decode cX5_convoy 28 = .ok (.bipush (-2), 2) := by decide +kernel
theorem dX5_convoy_30 : decode cX5_convoy 30 = .ok (.ireturn, 1) := by decide +kernel
theorem dX5_convoy_31 : decode cX5_convoy 31 = .ok (.aload_n 0, 1) := by decide +kernel
theorem dX5_convoy_32 : decode cX5_convoy 32 = .ok (.getfield 37, 3) := by decide +kernel
theorem dX5_convoy_35 : decode cX5_convoy 35 = .ok (.bipush 12, 2) := by decide +kernel
theorem dX5_convoy_37 : decode cX5_convoy 37 = .ok (.if_icmp .lt 6, 3) := by decide +kernel
theorem dX5_convoy_40 : decode cX5_convoy 40 = .ok (.bipush (-3), 2) := by decide +kernel
theorem dX5_convoy_42 : decode cX5_convoy 42 = .ok (.ireturn, 1) := by decide +kernel
theorem dX5_convoy_43 : decode cX5_convoy 43 = .ok (.aload_n 0, 1) := by decide +kernel
theorem dX5_convoy_44 : decode cX5_convoy 44 = .ok (.getfield 33, 3) := by decide +kernel
theorem dX5_convoy_47 : decode cX5_convoy 47 = .ok (.aload_n 0, 1) := by decide +kernel
theorem dX5_convoy_48 : decode cX5_convoy 48 = .ok (.getfield 37, 3) := by decide +kernel
theorem dX5_convoy_51 : decode cX5_convoy 51 = .ok (.new 31, 3) := by decide +kernel
theorem dX5_convoy_54 : decode cX5_convoy 54 = .ok (.dup, 1) := by decide +kernel
theorem dX5_convoy_55 : decode cX5_convoy 55 = .ok (.iload_n 1, 1) := by decide +kernel
theorem dX5_convoy_56 : decode cX5_convoy 56 = .ok (.iload_n 2, 1) := by decide +kernel
theorem dX5_convoy_57 : decode cX5_convoy 57 = .ok (.invokespecial 96, 3) := by decide +kernel
theorem dX5_convoy_60 : decode cX5_convoy 60 = .ok (.aastore, 1) := by decide +kernel
theorem dX5_convoy_61 : decode cX5_convoy 61 = .ok (.aload_n 0, 1) := by decide +kernel
theorem dX5_convoy_62 : decode cX5_convoy 62 = .ok (.dup, 1) := by decide +kernel
theorem dX5_convoy_63 : decode cX5_convoy 63 = .ok (.getfield 37, 3) := by decide +kernel
theorem dX5_convoy_66 : decode cX5_convoy 66 = .ok (.iconst 1, 1) := by decide +kernel
theorem dX5_convoy_67 : decode cX5_convoy 67 = .ok (.iadd, 1) := by decide +kernel
theorem dX5_convoy_68 : decode cX5_convoy 68 = .ok (.putfield 37, 3) := by decide +kernel
theorem dX5_convoy_71 : decode cX5_convoy 71 = .ok (.aload_n 0, 1) := by decide +kernel
theorem dX5_convoy_72 : decode cX5_convoy 72 = .ok (.getfield 37, 3) := by decide +kernel
theorem dX5_convoy_75 : decode cX5_convoy 75 = .ok (.iconst 1, 1) := by decide +kernel
theorem dX5_convoy_76 : decode cX5_convoy 76 = .ok (.isub, 1) := by decide +kernel
theorem dX5_convoy_77 : decode cX5_convoy 77 = .ok (.ireturn, 1) := by decide +kernel
theorem dX5_book_0 : decode cX5_book 0 = .ok (.aload_n 0, 1) := by decide +kernel
theorem dX5_book_1 : decode cX5_book 1 = .ok (.iload_n 1, 1) := by decide +kernel
theorem dX5_book_2 : decode cX5_book 2 = .ok (.invokevirtual 99, 3) := by decide +kernel
theorem dX5_book_5 : decode cX5_book 5 = .ok (.astore_n 3, 1) := by decide +kernel
theorem dX5_book_6 : decode cX5_book 6 = .ok (.aload_n 0, 1) := by decide +kernel
theorem dX5_book_7 : decode cX5_book 7 = .ok (.getfield 27, 3) := by decide +kernel
theorem dX5_book_10 : decode cX5_book 10 = .ok (.iload_n 2, 1) := by decide +kernel
theorem dX5_book_11 : decode cX5_book 11 = .ok (.invokevirtual 103, 3) := by decide +kernel
theorem dX5_book_14 : decode cX5_book 14 = .ok (.astore 4, 2) := by decide +kernel
theorem dX5_book_16 : decode cX5_book 16 = .ok (.aload_n 3, 1) := by decide +kernel
theorem dX5_book_17 : decode cX5_book 17 = .ok (.ifnull 8, 3) := by decide +kernel
theorem dX5_book_20 : decode cX5_book 20 = .ok (.aload 4, 2) := by decide +kernel
theorem dX5_book_22 : decode cX5_book 22 = .ok (.ifnonnull 5, 3) := by decide +kernel
theorem dX5_book_25 : decode cX5_book 25 = .ok (.iconst (-1), 1) := by decide +kernel
theorem dX5_book_26 : decode cX5_book 26 = .ok (.ireturn, 1) := by decide +kernel
theorem dX5_book_27 : decode cX5_book 27 = .ok (.aload_n 3, 1) := by decide +kernel
theorem dX5_book_28 : decode cX5_book 28 = .ok (.getfield 107, 3) := by decide +kernel
theorem dX5_book_31 : decode cX5_book 31 = .ok (.aload 4, 2) := by decide +kernel
theorem dX5_book_33 : decode cX5_book 33 = .ok (.getfield 110, 3) := by decide +kernel
theorem dX5_book_36 : decode cX5_book 36 = .ok (.if_icmp .ne 36, 3) := by decide +kernel
theorem dX5_book_39 : decode cX5_book 39 = .ok (.aload 4, 2) := by decide +kernel
theorem dX5_book_41 : decode cX5_book 41 = .ok (.getfield 111, 3) := by decide +kernel
theorem dX5_book_44 : decode cX5_book 44 = .ok (.bipush (-4), 2) := by decide +kernel
theorem dX5_book_46 : decode cX5_book 46 = .ok (.if_icmp .ne 26, 3) := by decide +kernel
theorem dX5_book_49 : decode cX5_book 49 = .ok (.aload_n 3, 1) := by decide +kernel
theorem dX5_book_50 : decode cX5_book 50 = .ok (.getfield 114, 3) := by decide +kernel
theorem dX5_book_53 : decode cX5_book 53 = .ok (.aload_n 0, 1) := by decide +kernel
theorem dX5_book_54 : decode cX5_book 54 = .ok (.getfield 53, 3) := by decide +kernel
theorem dX5_book_57 : decode cX5_book 57 = .ok (.if_icmp .le 15, 3) := by decide +kernel
theorem dX5_book_60 : decode cX5_book 60 = .ok (.aload 4, 2) := by decide +kernel
theorem dX5_book_62 : decode cX5_book 62 = .ok (.getfield 117, 3) := by decide +kernel
theorem dX5_book_65 : decode cX5_book 65 = .ok (.aload_n 0, 1) := by decide +kernel
theorem dX5_book_66 : decode cX5_book 66 = .ok (.getfield 53, 3) := by decide +kernel
theorem dX5_book_69 : decode cX5_book 69 = .ok (.if_icmp .ge 6, 3) := by decide +kernel
theorem dX5_book_72 : decode cX5_book 72 = .ok (.bipush (-2), 2) := by decide +kernel
theorem dX5_book_74 : decode cX5_book 74 = .ok (.ireturn, 1) := by decide +kernel
theorem dX5_book_75 : decode cX5_book 75 = .ok (.aload_n 3, 1) := by decide +kernel
theorem dX5_book_76 : decode cX5_book 76 = .ok (.getfield 120, 3) := by decide +kernel
theorem dX5_book_79 : decode cX5_book 79 = .ok (.invokevirtual 80, 3) := by decide +kernel
theorem dX5_book_82 : decode cX5_book 82 = .ok (.ifCond .eq 6, 3) := by decide +kernel
theorem dX5_book_85 : decode cX5_book 85 = .ok (.bipush (-3), 2) := by decide +kernel
theorem dX5_book_87 : decode cX5_book 87 = .ok (.ireturn, 1) := by decide +kernel
theorem dX5_book_88 : decode cX5_book 88 = .ok (.aload_n 3, 1) := by decide +kernel
theorem dX5_book_89 : decode cX5_book 89 = .ok (.getfield 120, 3) := by decide +kernel
theorem dX5_book_92 : decode cX5_book 92 = .ok (.aload 4, 2) := by decide +kernel
theorem dX5_book_94 : decode cX5_book 94 = .ok (.invokevirtual 92, 3) := by decide +kernel
theorem dX5_book_97 : decode cX5_book 97 = .ok (.aload 4, 2) := by decide +kernel
theorem dX5_book_99 : decode cX5_book 99 = .ok (.iload_n 1, 1) := by decide +kernel
theorem dX5_book_100 : decode cX5_book 100 = .ok (.putfield 111, 3) := by decide +kernel
theorem dX5_book_103 : decode cX5_book 103 = .ok (.aload_n 3, 1) := by decide +kernel
theorem dX5_book_104 : decode cX5_book 104 = .ok (.getfield 120, 3) := by decide +kernel
theorem dX5_book_107 : decode cX5_book 107 = .ok (.getfield 84, 3) := by decide +kernel
theorem dX5_book_110 : decode cX5_book 110 = .ok (.ireturn, 1) := by decide +kernel
theorem dX5_ground_0 : decode cX5_ground 0 = .ok (.aload_n 0, 1) := by decide +kernel
theorem dX5_ground_1 : decode cX5_ground 1 = .ok (.getfield 27, 3) := by decide +kernel
theorem dX5_ground_4 : decode cX5_ground 4 = .ok (.iload_n 1, 1) := by decide +kernel
theorem dX5_ground_5 : decode cX5_ground 5 = .ok (.invokevirtual 103, 3) := by decide +kernel
theorem dX5_ground_8 : decode cX5_ground 8 = .ok (.astore_n 3, 1) := by decide +kernel
theorem dX5_ground_9 : decode cX5_ground 9 = .ok (.aload_n 3, 1) := by decide +kernel
theorem dX5_ground_10 : decode cX5_ground 10 = .ok (.ifnull 14, 3) := by decide +kernel
theorem dX5_ground_13 : decode cX5_ground 13 = .ok (.iload_n 2, 1) := by decide +kernel
theorem dX5_ground_14 : decode cX5_ground 14 = .ok (.iconst 1, 1) := by decide +kernel
theorem dX5_ground_15 : decode cX5_ground 15 = .ok (.sipush 500, 3) := by decide +kernel
theorem dX5_ground_18 : decode cX5_ground 18 = .ok (.invokestatic 61, 3) := by decide +kernel
theorem dX5_ground_21 : decode cX5_ground 21 = .ok (.ifCond .ne 5, 3) := by decide +kernel
theorem dX5_ground_24 : decode cX5_ground 24 = .ok (.iconst (-1), 1) := by decide +kernel
theorem dX5_ground_25 : decode cX5_ground 25 = .ok (.ireturn, 1) := by decide +kernel
theorem dX5_ground_26 : decode cX5_ground 26 = .ok (.aload_n 3, 1) := by decide +kernel
theorem dX5_ground_27 : decode cX5_ground 27 = .ok (.invokevirtual 123, 3) := by decide +kernel
theorem dX5_ground_30 : decode cX5_ground 30 = .ok (.ifCond .eq 14, 3) := by decide +kernel
theorem dX5_ground_33 : decode cX5_ground 33 = .ok (.aload_n 3, 1) := by decide +kernel
theorem dX5_ground_34 : decode cX5_ground 34 = .ok (.aload_n 0, 1) := by decide +kernel
theorem dX5_ground_35 : decode cX5_ground 35 = .ok (.getfield 53, 3) := by decide +kernel
theorem dX5_ground_38 : decode cX5_ground 38 = .ok (.invokevirtual 126, 3) := by decide +kernel
theorem dX5_ground_41 : decode cX5_ground 41 = .ok (.ifCond .eq 6, 3) := by decide +kernel
theorem dX5_ground_44 : decode cX5_ground 44 = .ok (.bipush (-2), 2) := by decide +kernel
theorem dX5_ground_46 : decode cX5_ground 46 = .ok (.ireturn, 1) := by decide +kernel
theorem dX5_ground_47 : decode cX5_ground 47 = .ok (.aload_n 3, 1) := by decide +kernel
theorem dX5_ground_48 : decode cX5_ground 48 = .ok (.aload_n 0, 1) := by decide +kernel
theorem dX5_ground_49 : decode cX5_ground 49 = .ok (.getfield 53, 3) := by decide +kernel
theorem dX5_ground_52 : decode cX5_ground 52 = .ok (.iload_n 2, 1) := by decide +kernel
theorem dX5_ground_53 : decode cX5_ground 53 = .ok (.iadd, 1) := by decide +kernel
theorem dX5_ground_54 : decode cX5_ground 54 = .ok (.putfield 129, 3) := by decide +kernel
theorem dX5_ground_57 : decode cX5_ground 57 = .ok (.iconst 1, 1) := by decide +kernel
theorem dX5_ground_58 : decode cX5_ground 58 = .ok (.ireturn, 1) := by decide +kernel
theorem dX5_minutes_0 : decode cX5_minutes 0 = .ok (.iload_n 1, 1) := by decide +kernel
theorem dX5_minutes_1 : decode cX5_minutes 1 = .ok (.iconst 1, 1) := by decide +kernel
theorem dX5_minutes_2 : decode cX5_minutes 2 = .ok (.sipush 300, 3) := by decide +kernel
theorem dX5_minutes_5 : decode cX5_minutes 5 = .ok (.invokestatic 61, 3) := by decide +kernel
theorem dX5_minutes_8 : decode cX5_minutes 8 = .ok (.ifCond .ne 5, 3) := by decide +kernel
theorem dX5_minutes_11 : decode cX5_minutes 11 = .ok (.iconst (-1), 1) := by decide +kernel
theorem dX5_minutes_12 : decode cX5_minutes 12 = .ok (.ireturn, 1) := by decide +kernel
theorem dX5_minutes_13 : decode cX5_minutes 13 = .ok (.aload_n 0, 1) := by decide +kernel
theorem dX5_minutes_14 : decode cX5_minutes 14 = .ok (.getfield 53, 3) := by decide +kernel
theorem dX5_minutes_17 : decode cX5_minutes 17 = .ok (.iload_n 1, 1) := by decide +kernel
theorem dX5_minutes_18 : decode cX5_minutes 18 = .ok (.iadd, 1) := by decide +kernel
theorem dX5_minutes_19 : decode cX5_minutes 19 = .ok (.sipush 10000, 3) := by decide +kernel
theorem dX5_minutes_22 : decode cX5_minutes 22 = .ok (.if_icmp .le 6, 3) := by decide +kernel
theorem dX5_minutes_25 : decode cX5_minutes 25 = .ok (.bipush (-3), 2) := by decide +kernel
theorem dX5_minutes_27 : decode cX5_minutes 27 = .ok (.ireturn, 1) := by decide +kernel
theorem dX5_minutes_28 : decode cX5_minutes 28 = .ok (.iconst 0, 1) := by decide +kernel
theorem dX5_minutes_29 : decode cX5_minutes 29 = .ok (.istore_n 2, 1) := by decide +kernel
theorem dX5_minutes_30 : decode cX5_minutes 30 = .ok (.iload_n 2, 1) := by decide +kernel
theorem dX5_minutes_31 : decode cX5_minutes 31 = .ok (.iload_n 1, 1) := by decide +kernel
theorem dX5_minutes_32 : decode cX5_minutes 32 = .ok (.if_icmp .ge 47, 3) := by decide +kernel
theorem dX5_minutes_35 : decode cX5_minutes 35 = .ok (.aload_n 0, 1) := by decide +kernel
theorem dX5_minutes_36 : decode cX5_minutes 36 = .ok (.invokevirtual 132, 3) := by decide +kernel
theorem dX5_minutes_39 : decode cX5_minutes 39 = .ok (.aload_n 0, 1) := by decide +kernel
theorem dX5_minutes_40 : decode cX5_minutes 40 = .ok (.invokevirtual 135, 3) := by decide +kernel
theorem dX5_minutes_43 : decode cX5_minutes 43 = .ok (.aload_n 0, 1) := by decide +kernel
theorem dX5_minutes_44 : decode cX5_minutes 44 = .ok (.iconst 0, 1) := by decide +kernel
theorem dX5_minutes_45 : decode cX5_minutes 45 = .ok (.invokevirtual 138, 3) := by decide +kernel
theorem dX5_minutes_48 : decode cX5_minutes 48 = .ok (.aload_n 0, 1) := by decide +kernel
theorem dX5_minutes_49 : decode cX5_minutes 49 = .ok (.iconst 1, 1) := by decide +kernel
theorem dX5_minutes_50 : decode cX5_minutes 50 = .ok (.invokevirtual 138, 3) := by decide +kernel
theorem dX5_minutes_53 : decode cX5_minutes 53 = .ok (.aload_n 0, 1) := by decide +kernel
theorem dX5_minutes_54 : decode cX5_minutes 54 = .ok (.iconst 0, 1) := by decide +kernel
theorem dX5_minutes_55 : decode cX5_minutes 55 = .ok (.invokevirtual 141, 3) := by decide +kernel
theorem dX5_minutes_58 : decode cX5_minutes 58 = .ok (.aload_n 0, 1) := by decide +kernel
theorem dX5_minutes_59 : decode cX5_minutes 59 = .ok (.iconst 1, 1) := by decide +kernel
theorem dX5_minutes_60 : decode cX5_minutes 60 = .ok (.invokevirtual 141, 3) := by decide +kernel
theorem dX5_minutes_63 : decode cX5_minutes 63 = .ok (.aload_n 0, 1) := by decide +kernel
theorem dX5_minutes_64 : decode cX5_minutes 64 = .ok (.dup, 1) := by decide +kernel
theorem dX5_minutes_65 : decode cX5_minutes 65 = .ok (.getfield 53, 3) := by decide +kernel
theorem dX5_minutes_68 : decode cX5_minutes 68 = .ok (.iconst 1, 1) := by decide +kernel
theorem dX5_minutes_69 : decode cX5_minutes 69 = .ok (.iadd, 1) := by decide +kernel
theorem dX5_minutes_70 : decode cX5_minutes 70 = .ok (.putfield 53, 3) := by decide +kernel
theorem dX5_minutes_73 : decode cX5_minutes 73 = .ok (.iinc 2 1, 3) := by decide +kernel
theorem dX5_minutes_76 : decode cX5_minutes 76 = .ok (.goto (-46), 3) := by decide +kernel
theorem dX5_minutes_79 : decode cX5_minutes 79 = .ok (.aload_n 0, 1) := by decide +kernel
theorem dX5_minutes_80 : decode cX5_minutes 80 = .ok (.getfield 53, 3) := by decide +kernel
theorem dX5_minutes_83 : decode cX5_minutes 83 = .ok (.ireturn, 1) := by decide +kernel
theorem dX5_startConvoys_0 : decode cX5_startConvoys 0 = .ok (.iconst 0, 1) := by decide +kernel
theorem dX5_startConvoys_1 : decode cX5_startConvoys 1 = .ok (.istore_n 1, 1) := by decide +kernel
theorem dX5_startConvoys_2 : decode cX5_startConvoys 2 = .ok (.iload_n 1, 1) := by decide +kernel
theorem dX5_startConvoys_3 : decode cX5_startConvoys 3 = .ok (.aload_n 0, 1) := by decide +kernel
theorem dX5_startConvoys_4 : decode cX5_startConvoys 4 = .ok (.getfield 37, 3) := by decide +kernel
theorem dX5_startConvoys_7 : decode cX5_startConvoys 7 = .ok (.if_icmp .ge 46, 3) := by decide +kernel
theorem dX5_startConvoys_10 : decode cX5_startConvoys 10 = .ok (.aload_n 0, 1) := by decide +kernel
theorem dX5_startConvoys_11 : decode cX5_startConvoys 11 = .ok (.iload_n 1, 1) := by decide +kernel
theorem dX5_startConvoys_12 : decode cX5_startConvoys 12 = .ok (.invokevirtual 99, 3) := by decide +kernel
theorem dX5_startConvoys_15 : decode cX5_startConvoys 15 = .ok (.astore_n 2, 1) := by decide +kernel
theorem dX5_startConvoys_16 : decode cX5_startConvoys 16 = .ok (.aload_n 2, 1) := by decide +kernel
theorem dX5_startConvoys_17 : decode cX5_startConvoys 17 = .ok (.ifnull 30, 3) := by decide +kernel
theorem dX5_startConvoys_20 : decode cX5_startConvoys 20 = .ok (.aload_n 2, 1) := by decide +kernel
theorem dX5_startConvoys_21 : decode cX5_startConvoys 21 = .ok (.getfield 114, 3) := by decide +kernel
theorem dX5_startConvoys_24 : decode cX5_startConvoys 24 = .ok (.aload_n 0, 1) := by decide +kernel
theorem dX5_startConvoys_25 : decode cX5_startConvoys 25 = .ok (.getfield 53, 3) := by decide +kernel
theorem dX5_startConvoys_28 : decode cX5_startConvoys 28 = .ok (.if_icmp .ne 19, 3) := by decide +kernel
theorem dX5_startConvoys_31 : decode cX5_startConvoys 31 = .ok (.aload_n 0, 1) := by decide +kernel
theorem dX5_startConvoys_32 : decode cX5_startConvoys 32 = .ok (.aload_n 2, 1) := by decide +kernel
theorem dX5_startConvoys_33 : decode cX5_startConvoys 33 = .ok (.getfield 120, 3) := by decide +kernel
theorem dX5_startConvoys_36 : decode cX5_startConvoys 36 = .ok (.invokevirtual 144, 3) := by decide +kernel
theorem dX5_startConvoys_39 : decode cX5_startConvoys 39 = .ok (.aload_n 0, 1) := by decide +kernel
theorem dX5_startConvoys_40 : decode cX5_startConvoys 40 = .ok (.aload_n 2, 1) := by decide +kernel
theorem dX5_startConvoys_41 : decode cX5_startConvoys 41 = .ok (.getfield 148, 3) := by decide +kernel
theorem dX5_startConvoys_44 : decode cX5_startConvoys 44 = .ok (.invokevirtual 144, 3) := by decide +kernel
theorem dX5_startConvoys_47 : decode cX5_startConvoys 47 = .ok (.iinc 1 1, 3) := by decide +kernel
theorem dX5_startConvoys_50 : decode cX5_startConvoys 50 = .ok (.goto (-48), 3) := by decide +kernel
theorem dX5_startConvoys_53 : decode cX5_startConvoys 53 = .ok (.return_, 1) := by decide +kernel
theorem dX5_joinLine_0 : decode cX5_joinLine 0 = .ok (.iconst 0, 1) := by decide +kernel
theorem dX5_joinLine_1 : decode cX5_joinLine 1 = .ok (.istore_n 2, 1) := by decide +kernel
theorem dX5_joinLine_2 : decode cX5_joinLine 2 = .ok (.iload_n 2, 1) := by decide +kernel
theorem dX5_joinLine_3 : decode cX5_joinLine 3 = .ok (.aload_n 1, 1) := by decide +kernel
theorem dX5_joinLine_4 : decode cX5_joinLine 4 = .ok (.getfield 84, 3) := by decide +kernel
theorem dX5_joinLine_7 : decode cX5_joinLine 7 = .ok (.if_icmp .ge 42, 3) := by decide +kernel
theorem dX5_joinLine_10 : decode cX5_joinLine 10 = .ok (.aload_n 1, 1) := by decide +kernel
theorem dX5_joinLine_11 : decode cX5_joinLine 11 = .ok (.iload_n 2, 1) := by decide +kernel
theorem dX5_joinLine_12 : decode cX5_joinLine 12 = .ok (.invokevirtual 103, 3) := by decide +kernel
theorem dX5_joinLine_15 : decode cX5_joinLine 15 = .ok (.astore_n 3, 1) := by decide +kernel
theorem dX5_joinLine_16 : decode cX5_joinLine 16 = .ok (.aload_n 3, 1) := by decide +kernel
theorem dX5_joinLine_17 : decode cX5_joinLine 17 = .ok (.ifnull 26, 3) := by decide +kernel
theorem dX5_joinLine_20 : decode cX5_joinLine 20 = .ok (.aload_n 3, 1) := by decide +kernel
theorem dX5_joinLine_21 : decode cX5_joinLine 21 = .ok (.getfield 117, 3) := by decide +kernel
theorem dX5_joinLine_24 : decode cX5_joinLine 24 = .ok (.aload_n 0, 1) := by decide +kernel
theorem dX5_joinLine_25 : decode cX5_joinLine 25 = .ok (.getfield 53, 3) := by decide +kernel
theorem dX5_joinLine_28 : decode cX5_joinLine 28 = .ok (.if_icmp .gt 15, 3) := by decide +kernel
theorem dX5_joinLine_31 : decode cX5_joinLine 31 = .ok (.aload_n 0, 1) := by decide +kernel
theorem dX5_joinLine_32 : decode cX5_joinLine 32 = .ok (.aload_n 3, 1) := by decide +kernel
theorem dX5_joinLine_33 : decode cX5_joinLine 33 = .ok (.getfield 110, 3) := by decide +kernel
theorem dX5_joinLine_36 : decode cX5_joinLine 36 = .ok (.invokevirtual 151, 3) := by decide +kernel
theorem dX5_joinLine_39 : decode cX5_joinLine 39 = .ok (.aload_n 3, 1) := by decide +kernel
theorem dX5_joinLine_40 : decode cX5_joinLine 40 = .ok (.invokevirtual 92, 3) := by decide +kernel
theorem dX5_joinLine_43 : decode cX5_joinLine 43 = .ok (.iinc 2 1, 3) := by decide +kernel
theorem dX5_joinLine_46 : decode cX5_joinLine 46 = .ok (.goto (-44), 3) := by decide +kernel
theorem dX5_joinLine_49 : decode cX5_joinLine 49 = .ok (.return_, 1) := by decide +kernel
theorem dX5_findLateShips_0 : decode cX5_findLateShips 0 = .ok (.iconst 0, 1) := by decide +kernel
theorem dX5_findLateShips_1 : decode cX5_findLateShips 1 = .ok (.istore_n 1, 1) := by decide +kernel
theorem dX5_findLateShips_2 : decode cX5_findLateShips 2 = .ok (.iload_n 1, 1) := by decide +kernel
theorem dX5_findLateShips_3 : decode cX5_findLateShips 3 = .ok (.aload_n 0, 1) := by decide +kernel
theorem dX5_findLateShips_4 : decode cX5_findLateShips 4 = .ok (.getfield 27, 3) := by decide +kernel
theorem dX5_findLateShips_7 : decode cX5_findLateShips 7 = .ok (.getfield 84, 3) := by decide +kernel
theorem dX5_findLateShips_10 : decode cX5_findLateShips 10 = .ok (.if_icmp .ge 46, 3) := by decide +kernel
theorem dX5_findLateShips_13 : decode cX5_findLateShips 13 = .ok (.aload_n 0, 1) := by decide +kernel
theorem dX5_findLateShips_14 : decode cX5_findLateShips 14 = .ok (.getfield 27, 3) := by decide +kernel
theorem dX5_findLateShips_17 : decode cX5_findLateShips 17 = .ok (.iload_n 1, 1) := by decide +kernel
theorem dX5_findLateShips_18 : decode cX5_findLateShips 18 = .ok (.invokevirtual 103, 3) := by decide +kernel
theorem dX5_findLateShips_21 : decode cX5_findLateShips 21 = .ok (.astore_n 2, 1) := by decide +kernel
theorem dX5_findLateShips_22 : decode cX5_findLateShips 22 = .ok (.aload_n 2, 1) := by decide +kernel
theorem dX5_findLateShips_23 : decode cX5_findLateShips 23 = .ok (.ifnull 27, 3) := by decide +kernel
theorem dX5_findLateShips_26 : decode cX5_findLateShips 26 = .ok (.aload_n 2, 1) := by decide +kernel
theorem dX5_findLateShips_27 : decode cX5_findLateShips 27 = .ok (.getfield 117, 3) := by decide +kernel
theorem dX5_findLateShips_30 : decode cX5_findLateShips 30 = .ok (.aload_n 0, 1) := by decide +kernel
theorem dX5_findLateShips_31 : decode cX5_findLateShips 31 = .ok (.getfield 53, 3) := by decide +kernel
theorem dX5_findLateShips_34 : decode cX5_findLateShips 34 = .ok (.if_icmp .ne 16, 3) := by decide +kernel
theorem dX5_findLateShips_37 : decode cX5_findLateShips 37 = .ok (.aload_n 0, 1) := by decide +kernel
theorem dX5_findLateShips_38 : decode cX5_findLateShips 38 = .ok (.aload_n 2, 1) := by decide +kernel
theorem dX5_findLateShips_39 : decode cX5_findLateShips 39 = .ok (.invokevirtual 155, 3) := by decide +kernel
theorem dX5_findLateShips_42 : decode cX5_findLateShips 42 = .ok (.ifCond .eq 8, 3) := by decide +kernel
theorem dX5_findLateShips_45 : decode cX5_findLateShips 45 = .ok (.aload_n 0, 1) := by decide +kernel
theorem dX5_findLateShips_46 : decode cX5_findLateShips 46 = .ok (.aload_n 2, 1) := by decide +kernel
theorem dX5_findLateShips_47 : decode cX5_findLateShips 47 = .ok (.invokevirtual 159, 3) := by decide +kernel
theorem dX5_findLateShips_50 : decode cX5_findLateShips 50 = .ok (.iinc 1 1, 3) := by decide +kernel
theorem dX5_findLateShips_53 : decode cX5_findLateShips 53 = .ok (.goto (-51), 3) := by decide +kernel
theorem dX5_findLateShips_56 : decode cX5_findLateShips 56 = .ok (.return_, 1) := by decide +kernel
theorem dX5_missedConvoy_0 : decode cX5_missedConvoy 0 = .ok (.aload_n 0, 1) := by decide +kernel
theorem dX5_missedConvoy_1 : decode cX5_missedConvoy 1 = .ok (.aload_n 1, 1) := by decide +kernel
theorem dX5_missedConvoy_2 : decode cX5_missedConvoy 2 = .ok (.getfield 111, 3) := by decide +kernel
theorem dX5_missedConvoy_5 : decode cX5_missedConvoy 5 = .ok (.invokevirtual 99, 3) := by decide +kernel
theorem dX5_missedConvoy_8 : decode cX5_missedConvoy 8 = .ok (.astore_n 2, 1) := by decide +kernel
theorem dX5_missedConvoy_9 : decode cX5_missedConvoy 9 = .ok (.aload_n 2, 1) := by decide +kernel
theorem dX5_missedConvoy_10 : decode cX5_missedConvoy 10 = .ok (.ifnull 18, 3) := by decide +kernel
theorem dX5_missedConvoy_13 : decode cX5_missedConvoy 13 = .ok (.aload_n 2, 1) := by decide +kernel
theorem dX5_missedConvoy_14 : decode cX5_missedConvoy 14 = .ok (.getfield 114, 3) := by decide +kernel
theorem dX5_missedConvoy_17 : decode cX5_missedConvoy 17 = .ok (.aload_n 0, 1) := by decide +kernel
theorem dX5_missedConvoy_18 : decode cX5_missedConvoy 18 = .ok (.getfield 53, 3) := by decide +kernel
theorem dX5_missedConvoy_21 : decode cX5_missedConvoy 21 = .ok (.if_icmp .ge 7, 3) := by decide +kernel
theorem dX5_missedConvoy_24 : decode cX5_missedConvoy 24 = .ok (.iconst 1, 1) := by decide +kernel
theorem dX5_missedConvoy_25 : decode cX5_missedConvoy 25 = .ok (.goto 4, 3) := by decide +kernel
theorem dX5_missedConvoy_28 : decode cX5_missedConvoy 28 = .ok (.iconst 0, 1) := by decide +kernel
theorem dX5_missedConvoy_29 : decode cX5_missedConvoy 29 = .ok (.ireturn, 1) := by decide +kernel
theorem dX5_takeLateShip_0 : decode cX5_takeLateShip 0 = .ok (.aload_n 1, 1) := by decide +kernel
theorem dX5_takeLateShip_1 : decode cX5_takeLateShip 1 = .ok (.iconst 1, 1) := by decide +kernel
theorem dX5_takeLateShip_2 : decode cX5_takeLateShip 2 = .ok (.putfield 162, 3) := by decide +kernel
theorem dX5_takeLateShip_5 : decode cX5_takeLateShip 5 = .ok (.aload_n 0, 1) := by decide +kernel
theorem dX5_takeLateShip_6 : decode cX5_takeLateShip 6 = .ok (.getfield 50, 3) := by decide +kernel
theorem dX5_takeLateShip_9 : decode cX5_takeLateShip 9 = .ok (.iconst 1, 1) := by decide +kernel
theorem dX5_takeLateShip_10 : decode cX5_takeLateShip 10 = .ok (.if_icmp .ne 16, 3) := by decide +kernel
theorem dX5_takeLateShip_13 : decode cX5_takeLateShip 13 = .ok (.aload_n 0, 1) := by decide +kernel
theorem dX5_takeLateShip_14 : decode cX5_takeLateShip 14 = .ok (.aload_n 1, 1) := by decide +kernel
theorem dX5_takeLateShip_15 : decode cX5_takeLateShip 15 = .ok (.getfield 110, 3) := by decide +kernel
theorem dX5_takeLateShip_18 : decode cX5_takeLateShip 18 = .ok (.invokevirtual 151, 3) := by decide +kernel
theorem dX5_takeLateShip_21 : decode cX5_takeLateShip 21 = .ok (.aload_n 1, 1) := by decide +kernel
theorem dX5_takeLateShip_22 : decode cX5_takeLateShip 22 = .ok (.invokevirtual 92, 3) := by decide +kernel
theorem dX5_takeLateShip_25 : decode cX5_takeLateShip 25 = .ok (.return_, 1) := by decide +kernel
theorem dX5_takeLateShip_26 : decode cX5_takeLateShip 26 = .ok (.aload_n 0, 1) := by decide +kernel
theorem dX5_takeLateShip_27 : decode cX5_takeLateShip 27 = .ok (.aload_n 1, 1) := by decide +kernel
theorem dX5_takeLateShip_28 : decode cX5_takeLateShip 28 = .ok (.getfield 110, 3) := by decide +kernel
theorem dX5_takeLateShip_31 : decode cX5_takeLateShip 31 = .ok (.invokevirtual 165, 3) := by decide +kernel
theorem dX5_takeLateShip_34 : decode cX5_takeLateShip 34 = .ok (.istore_n 2, 1) := by decide +kernel
theorem dX5_takeLateShip_35 : decode cX5_takeLateShip 35 = .ok (.aload_n 0, 1) := by decide +kernel
theorem dX5_takeLateShip_36 : decode cX5_takeLateShip 36 = .ok (.iload_n 2, 1) := by decide +kernel
theorem dX5_takeLateShip_37 : decode cX5_takeLateShip 37 = .ok (.invokevirtual 99, 3) := by decide +kernel
theorem dX5_takeLateShip_40 : decode cX5_takeLateShip 40 = .ok (.astore_n 3, 1) := by decide +kernel
theorem dX5_takeLateShip_41 : decode cX5_takeLateShip 41 = .ok (.aload_n 3, 1) := by decide +kernel
theorem dX5_takeLateShip_42 : decode cX5_takeLateShip 42 = .ok (.ifnonnull 9, 3) := by decide +kernel
theorem dX5_takeLateShip_45 : decode cX5_takeLateShip 45 = .ok (.aload_n 1, 1) := by decide +kernel
theorem dX5_takeLateShip_46 : decode cX5_takeLateShip 46 = .ok (.iconst 1, 1) := by decide +kernel
theorem dX5_takeLateShip_47 : decode cX5_takeLateShip 47 = .ok (.putfield 169, 3) := by decide +kernel
theorem dX5_takeLateShip_50 : decode cX5_takeLateShip 50 = .ok (.return_, 1) := by decide +kernel
theorem dX5_takeLateShip_51 : decode cX5_takeLateShip 51 = .ok (.aload_n 3, 1) := by decide +kernel
theorem dX5_takeLateShip_52 : decode cX5_takeLateShip 52 = .ok (.getfield 148, 3) := by decide +kernel
theorem dX5_takeLateShip_55 : decode cX5_takeLateShip 55 = .ok (.aload_n 1, 1) := by decide +kernel
theorem dX5_takeLateShip_56 : decode cX5_takeLateShip 56 = .ok (.invokevirtual 92, 3) := by decide +kernel
theorem dX5_takeLateShip_59 : decode cX5_takeLateShip 59 = .ok (.aload_n 1, 1) := by decide +kernel
theorem dX5_takeLateShip_60 : decode cX5_takeLateShip 60 = .ok (.iload_n 2, 1) := by decide +kernel
theorem dX5_takeLateShip_61 : decode cX5_takeLateShip 61 = .ok (.putfield 111, 3) := by decide +kernel
theorem dX5_takeLateShip_64 : decode cX5_takeLateShip 64 = .ok (.return_, 1) := by decide +kernel
theorem dX5_nextConvoy_0 : decode cX5_nextConvoy 0 = .ok (.bipush (-4), 2) := by decide +kernel
theorem dX5_nextConvoy_2 : decode cX5_nextConvoy 2 = .ok (.istore_n 2, 1) := by decide +kernel
theorem dX5_nextConvoy_3 : decode cX5_nextConvoy 3 = .ok (.sipush 10000, 3) := by decide +kernel
theorem dX5_nextConvoy_6 : decode cX5_nextConvoy 6 = .ok (.istore_n 3, 1) := by decide +kernel
theorem dX5_nextConvoy_7 : decode cX5_nextConvoy 7 = .ok (.iconst 0, 1) := by decide +kernel
theorem dX5_nextConvoy_8 : decode cX5_nextConvoy 8 = .ok (.istore 4, 2) := by decide +kernel
theorem dX5_nextConvoy_10 : decode cX5_nextConvoy 10 = .ok (.iload 4, 2) := by decide +kernel
theorem dX5_nextConvoy_12 : decode cX5_nextConvoy 12 = .ok (.aload_n 0, 1) := by decide +kernel
theorem dX5_nextConvoy_13 : decode cX5_nextConvoy 13 = .ok (.getfield 37, 3) := by decide +kernel
theorem dX5_nextConvoy_16 : decode cX5_nextConvoy 16 = .ok (.if_icmp .ge 61, 3) := by decide +kernel
theorem dX5_nextConvoy_19 : decode cX5_nextConvoy 19 = .ok (.aload_n 0, 1) := by decide +kernel
theorem dX5_nextConvoy_20 : decode cX5_nextConvoy 20 = .ok (.iload 4, 2) := by decide +kernel
theorem dX5_nextConvoy_22 : decode cX5_nextConvoy 22 = .ok (.invokevirtual 99, 3) := by decide +kernel
theorem dX5_nextConvoy_25 : decode cX5_nextConvoy 25 = .ok (.astore 5, 2) := by decide +kernel
theorem dX5_nextConvoy_27 : decode cX5_nextConvoy 27 = .ok (.aload 5, 2) := by decide +kernel
theorem dX5_nextConvoy_29 : decode cX5_nextConvoy 29 = .ok (.ifnull 42, 3) := by decide +kernel
theorem dX5_nextConvoy_32 : decode cX5_nextConvoy 32 = .ok (.aload 5, 2) := by decide +kernel
theorem dX5_nextConvoy_34 : decode cX5_nextConvoy 34 = .ok (.getfield 107, 3) := by decide +kernel
theorem dX5_nextConvoy_37 : decode cX5_nextConvoy 37 = .ok (.iload_n 1, 1) := by decide +kernel
theorem dX5_nextConvoy_38 : decode cX5_nextConvoy 38 = .ok (.if_icmp .ne 33, 3) := by decide +kernel
theorem dX5_nextConvoy_41 : decode cX5_nextConvoy 41 = .ok (.aload 5, 2) := by decide +kernel
theorem dX5_nextConvoy_43 : decode cX5_nextConvoy 43 = .ok (.getfield 114, 3) := by decide +kernel
theorem dX5_nextConvoy_46 : decode cX5_nextConvoy 46 = .ok (.aload_n 0, 1) := by decide +kernel
theorem dX5_nextConvoy_47 : decode cX5_nextConvoy 47 = .ok (.getfield 53, 3) := by decide +kernel
theorem dX5_nextConvoy_50 : decode cX5_nextConvoy 50 = .ok (.if_icmp .le 21, 3) := by decide +kernel
theorem dX5_nextConvoy_53 : decode cX5_nextConvoy 53 = .ok (.aload 5, 2) := by decide +kernel
theorem dX5_nextConvoy_55 : decode cX5_nextConvoy 55 = .ok (.getfield 114, 3) := by decide +kernel
theorem dX5_nextConvoy_58 : decode cX5_nextConvoy 58 = .ok (.iload_n 3, 1) := by decide +kernel
theorem dX5_nextConvoy_59 : decode cX5_nextConvoy 59 = .ok (.if_icmp .ge 12, 3) := by decide +kernel
theorem dX5_nextConvoy_62 : decode cX5_nextConvoy 62 = .ok (.iload 4, 2) := by decide +kernel
theorem dX5_nextConvoy_64 : decode cX5_nextConvoy 64 = .ok (.istore_n 2, 1) := by decide +kernel
theorem dX5_nextConvoy_65 : decode cX5_nextConvoy 65 = .ok (.aload 5, 2) := by decide +kernel
theorem dX5_nextConvoy_67 : decode cX5_nextConvoy 67 = .ok (.getfield 114, 3) := by decide +kernel
theorem dX5_nextConvoy_70 : decode cX5_nextConvoy 70 = .ok (.istore_n 3, 1) := by decide +kernel
theorem dX5_nextConvoy_71 : decode cX5_nextConvoy 71 = .ok (.iinc 4 1, 3) := by decide +kernel
theorem dX5_nextConvoy_74 : decode cX5_nextConvoy 74 = .ok (.goto (-64), 3) := by decide +kernel
theorem dX5_nextConvoy_77 : decode cX5_nextConvoy 77 = .ok (.iload_n 2, 1) := by decide +kernel
theorem dX5_nextConvoy_78 : decode cX5_nextConvoy 78 = .ok (.ireturn, 1) := by decide +kernel
theorem dX5_moveShips_0 : decode cX5_moveShips 0 = .ok (.iconst 0, 1) := by decide +kernel
theorem dX5_moveShips_1 : decode cX5_moveShips 1 = .ok (.istore_n 2, 1) := by decide +kernel
theorem dX5_moveShips_2 : decode cX5_moveShips 2 = .ok (.iload_n 2, 1) := by decide +kernel
theorem dX5_moveShips_3 : decode cX5_moveShips 3 = .ok (.bipush 8, 2) := by decide +kernel
theorem dX5_moveShips_5 : decode cX5_moveShips 5 = .ok (.if_icmp .ge 43, 3) := by decide +kernel
theorem dX5_moveShips_8 : decode cX5_moveShips 8 = .ok (.aload_n 0, 1) := by decide +kernel
theorem dX5_moveShips_9 : decode cX5_moveShips 9 = .ok (.iload_n 1, 1) := by decide +kernel
theorem dX5_moveShips_10 : decode cX5_moveShips 10 = .ok (.ifCond .ne 10, 3) := by decide +kernel
theorem dX5_moveShips_13 : decode cX5_moveShips 13 = .ok (.bipush 7, 2) := by decide +kernel
theorem dX5_moveShips_15 : decode cX5_moveShips 15 = .ok (.iload_n 2, 1) := by decide +kernel
theorem dX5_moveShips_16 : decode cX5_moveShips 16 = .ok (.isub, 1) := by decide +kernel
theorem dX5_moveShips_17 : decode cX5_moveShips 17 = .ok (.goto 4, 3) := by decide +kernel
theorem dX5_moveShips_20 : decode cX5_moveShips 20 = .ok (.iload_n 2, 1) := by decide +kernel
theorem dX5_moveShips_21 : decode cX5_moveShips 21 = .ok (.invokevirtual 57, 3) := by decide +kernel
theorem dX5_moveShips_24 : decode cX5_moveShips 24 = .ok (.astore_n 3, 1) := by decide +kernel
theorem dX5_moveShips_25 : decode cX5_moveShips 25 = .ok (.aload_n 3, 1) := by decide +kernel
theorem dX5_moveShips_26 : decode cX5_moveShips 26 = .ok (.ifnull 16, 3) := by decide +kernel
theorem dX5_moveShips_29 : decode cX5_moveShips 29 = .ok (.aload_n 0, 1) := by decide +kernel
theorem dX5_moveShips_30 : decode cX5_moveShips 30 = .ok (.aload_n 3, 1) := by decide +kernel
theorem dX5_moveShips_31 : decode cX5_moveShips 31 = .ok (.aload_n 3, 1) := by decide +kernel
theorem dX5_moveShips_32 : decode cX5_moveShips 32 = .ok (.iload_n 1, 1) := by decide +kernel
theorem dX5_moveShips_33 : decode cX5_moveShips 33 = .ok (.invokevirtual 172, 3) := by decide +kernel
theorem dX5_moveShips_36 : decode cX5_moveShips 36 = .ok (.getfield 176, 3) := by decide +kernel
theorem dX5_moveShips_39 : decode cX5_moveShips 39 = .ok (.invokevirtual 179, 3) := by decide +kernel
theorem dX5_moveShips_42 : decode cX5_moveShips 42 = .ok (.iinc 2 1, 3) := by decide +kernel
theorem dX5_moveShips_45 : decode cX5_moveShips 45 = .ok (.goto (-43), 3) := by decide +kernel
theorem dX5_moveShips_48 : decode cX5_moveShips 48 = .ok (.return_, 1) := by decide +kernel
theorem dX5_moveWithin_0 : decode cX5_moveWithin 0 = .ok (.aload_n 2, 1) := by decide +kernel
theorem dX5_moveWithin_1 : decode cX5_moveWithin 1 = .ok (.getfield 84, 3) := by decide +kernel
theorem dX5_moveWithin_4 : decode cX5_moveWithin 4 = .ok (.istore_n 3, 1) := by decide +kernel
theorem dX5_moveWithin_5 : decode cX5_moveWithin 5 = .ok (.iconst 0, 1) := by decide +kernel
theorem dX5_moveWithin_6 : decode cX5_moveWithin 6 = .ok (.istore 4, 2) := by decide +kernel
theorem dX5_moveWithin_8 : decode cX5_moveWithin 8 = .ok (.iconst 0, 1) := by decide +kernel
theorem dX5_moveWithin_9 : decode cX5_moveWithin 9 = .ok (.istore 5, 2) := by decide +kernel
theorem dX5_moveWithin_11 : decode cX5_moveWithin 11 = .ok (.iconst 0, 1) := by decide +kernel
theorem dX5_moveWithin_12 : decode cX5_moveWithin 12 = .ok (.istore 6, 2) := by decide +kernel
theorem dX5_moveWithin_14 : decode cX5_moveWithin 14 = .ok (.iload 6, 2) := by decide +kernel
theorem dX5_moveWithin_16 : decode cX5_moveWithin 16 = .ok (.iload_n 3, 1) := by decide +kernel
theorem dX5_moveWithin_17 : decode cX5_moveWithin 17 = .ok (.if_icmp .ge 94, 3) := by decide +kernel
theorem dX5_moveWithin_20 : decode cX5_moveWithin 20 = .ok (.aload_n 2, 1) := by decide +kernel
theorem dX5_moveWithin_21 : decode cX5_moveWithin 21 = .ok (.iload 4, 2) := by decide +kernel
theorem dX5_moveWithin_23 : decode cX5_moveWithin 23 = .ok (.invokevirtual 103, 3) := by decide +kernel
theorem dX5_moveWithin_26 : decode cX5_moveWithin 26 = .ok (.astore 7, 2) := by decide +kernel
theorem dX5_moveWithin_28 : decode cX5_moveWithin 28 = .ok (.aload 7, 2) := by decide +kernel
theorem dX5_moveWithin_30 : decode cX5_moveWithin 30 = .ok (.ifnonnull 4, 3) := by decide +kernel
theorem dX5_moveWithin_33 : decode cX5_moveWithin 33 = .ok (.return_, 1) := by decide +kernel
theorem dX5_moveWithin_34 : decode cX5_moveWithin 34 = .ok (.iload 5, 2) := by decide +kernel
theorem dX5_moveWithin_36 : decode cX5_moveWithin 36 = .ok (.ifCond .ne 15, 3) := by decide +kernel
theorem dX5_moveWithin_39 : decode cX5_moveWithin 39 = .ok (.aload 7, 2) := by decide +kernel
theorem dX5_moveWithin_41 : decode cX5_moveWithin 41 = .ok (.aload_n 0, 1) := by decide +kernel
theorem dX5_moveWithin_42 : decode cX5_moveWithin 42 = .ok (.getfield 53, 3) := by decide +kernel
theorem dX5_moveWithin_45 : decode cX5_moveWithin 45 = .ok (.invokevirtual 126, 3) := by decide +kernel
theorem dX5_moveWithin_48 : decode cX5_moveWithin 48 = .ok (.ifCond .eq 7, 3) := by decide +kernel
theorem dX5_moveWithin_51 : decode cX5_moveWithin 51 = .ok (.iconst 1, 1) := by decide +kernel
theorem dX5_moveWithin_52 : decode cX5_moveWithin 52 = .ok (.goto 4, 3) := by decide +kernel
theorem dX5_moveWithin_55 : decode cX5_moveWithin 55 = .ok (.iconst 0, 1) := by decide +kernel
theorem dX5_moveWithin_56 : decode cX5_moveWithin 56 = .ok (.istore 5, 2) := by decide +kernel
theorem dX5_moveWithin_58 : decode cX5_moveWithin 58 = .ok (.iload 5, 2) := by decide +kernel
theorem dX5_moveWithin_60 : decode cX5_moveWithin 60 = .ok (.ifCond .eq 15, 3) := by decide +kernel
theorem dX5_moveWithin_63 : decode cX5_moveWithin 63 = .ok (.aload 7, 2) := by decide +kernel
theorem dX5_moveWithin_65 : decode cX5_moveWithin 65 = .ok (.iconst 0, 1) := by decide +kernel
theorem dX5_moveWithin_66 : decode cX5_moveWithin 66 = .ok (.invokevirtual 183, 3) := by decide +kernel
theorem dX5_moveWithin_69 : decode cX5_moveWithin 69 = .ok (.iinc 4 1, 3) := by decide +kernel
theorem dX5_moveWithin_72 : decode cX5_moveWithin 72 = .ok (.goto 33, 3) := by decide +kernel
theorem dX5_moveWithin_75 : decode cX5_moveWithin 75 = .ok (.aload_n 0, 1) := by decide +kernel
theorem dX5_moveWithin_76 : decode cX5_moveWithin 76 = .ok (.aload 7, 2) := by decide +kernel
theorem dX5_moveWithin_78 : decode cX5_moveWithin 78 = .ok (.aload_n 1, 1) := by decide +kernel
theorem dX5_moveWithin_79 : decode cX5_moveWithin 79 = .ok (.iload 4, 2) := by decide +kernel
theorem dX5_moveWithin_81 : decode cX5_moveWithin 81 = .ok (.ifCond .ne 7, 3) := by decide +kernel
theorem dX5_moveWithin_84 : decode cX5_moveWithin 84 = .ok (.iconst 1, 1) := by decide +kernel
theorem dX5_moveWithin_85 : decode cX5_moveWithin 85 = .ok (.goto 4, 3) := by decide +kernel
theorem dX5_moveWithin_88 : decode cX5_moveWithin 88 = .ok (.iconst 0, 1) := by decide +kernel
theorem dX5_moveWithin_89 : decode cX5_moveWithin 89 = .ok (.invokevirtual 186, 3) := by decide +kernel
theorem dX5_moveWithin_92 : decode cX5_moveWithin 92 = .ok (.ifCond .eq 10, 3) := by decide +kernel
theorem dX5_moveWithin_95 : decode cX5_moveWithin 95 = .ok (.aload_n 2, 1) := by decide +kernel
theorem dX5_moveWithin_96 : decode cX5_moveWithin 96 = .ok (.invokevirtual 190, 3) := by decide +kernel
theorem dX5_moveWithin_99 : decode cX5_moveWithin 99 = .ok (.goto 6, 3) := by decide +kernel
theorem dX5_moveWithin_102 : decode cX5_moveWithin 102 = .ok (.iinc 4 1, 3) := by decide +kernel
theorem dX5_moveWithin_105 : decode cX5_moveWithin 105 = .ok (.iinc 6 1, 3) := by decide +kernel
theorem dX5_moveWithin_108 : decode cX5_moveWithin 108 = .ok (.goto (-94), 3) := by decide +kernel
theorem dX5_moveWithin_111 : decode cX5_moveWithin 111 = .ok (.return_, 1) := by decide +kernel
theorem dX5_leaves_0 : decode cX5_leaves 0 = .ok (.aload_n 1, 1) := by decide +kernel
theorem dX5_leaves_1 : decode cX5_leaves 1 = .ok (.getfield 193, 3) := by decide +kernel
theorem dX5_leaves_4 : decode cX5_leaves 4 = .ok (.ifCond .le 13, 3) := by decide +kernel
theorem dX5_leaves_7 : decode cX5_leaves 7 = .ok (.aload_n 1, 1) := by decide +kernel
theorem dX5_leaves_8 : decode cX5_leaves 8 = .ok (.dup, 1) := by decide +kernel
theorem dX5_leaves_9 : decode cX5_leaves 9 = .ok (.getfield 193, 3) := by decide +kernel
theorem dX5_leaves_12 : decode cX5_leaves 12 = .ok (.iconst 1, 1) := by decide +kernel
theorem dX5_leaves_13 : decode cX5_leaves 13 = .ok (.isub, 1) := by decide +kernel
theorem dX5_leaves_14 : decode cX5_leaves 14 = .ok (.putfield 193, 3) := by decide +kernel
theorem dX5_leaves_17 : decode cX5_leaves 17 = .ok (.aload_n 1, 1) := by decide +kernel
theorem dX5_leaves_18 : decode cX5_leaves 18 = .ok (.getfield 193, 3) := by decide +kernel
theorem dX5_leaves_21 : decode cX5_leaves 21 = .ok (.ifCond .le 5, 3) := by decide +kernel
theorem dX5_leaves_24 : decode cX5_leaves 24 = .ok (.iconst 0, 1) := by decide +kernel
theorem dX5_leaves_25 : decode cX5_leaves 25 = .ok (.ireturn, 1) := by decide +kernel
theorem dX5_leaves_26 : decode cX5_leaves 26 = .ok (.iload_n 3, 1) := by decide +kernel
theorem dX5_leaves_27 : decode cX5_leaves 27 = .ok (.ifCond .ne 11, 3) := by decide +kernel
theorem dX5_leaves_30 : decode cX5_leaves 30 = .ok (.aload_n 1, 1) := by decide +kernel
theorem dX5_leaves_31 : decode cX5_leaves 31 = .ok (.bipush 6, 2) := by decide +kernel
theorem dX5_leaves_33 : decode cX5_leaves 33 = .ok (.invokevirtual 183, 3) := by decide +kernel
theorem dX5_leaves_36 : decode cX5_leaves 36 = .ok (.iconst 0, 1) := by decide +kernel
theorem dX5_leaves_37 : decode cX5_leaves 37 = .ok (.ireturn, 1) := by decide +kernel
theorem dX5_leaves_38 : decode cX5_leaves 38 = .ok (.aload_n 0, 1) := by decide +kernel
theorem dX5_leaves_39 : decode cX5_leaves 39 = .ok (.aload_n 1, 1) := by decide +kernel
theorem dX5_leaves_40 : decode cX5_leaves 40 = .ok (.getfield 110, 3) := by decide +kernel
theorem dX5_leaves_43 : decode cX5_leaves 43 = .ok (.ifCond .ne 12, 3) := by decide +kernel
theorem dX5_leaves_46 : decode cX5_leaves 46 = .ok (.aload_n 2, 1) := by decide +kernel
theorem dX5_leaves_47 : decode cX5_leaves 47 = .ok (.getfield 196, 3) := by decide +kernel
theorem dX5_leaves_50 : decode cX5_leaves 50 = .ok (.iconst 1, 1) := by decide +kernel
theorem dX5_leaves_51 : decode cX5_leaves 51 = .ok (.iadd, 1) := by decide +kernel
theorem dX5_leaves_52 : decode cX5_leaves 52 = .ok (.goto 9, 3) := by decide +kernel
theorem dX5_leaves_55 : decode cX5_leaves 55 = .ok (.aload_n 2, 1) := by decide +kernel
theorem dX5_leaves_56 : decode cX5_leaves 56 = .ok (.getfield 196, 3) := by decide +kernel
theorem dX5_leaves_59 : decode cX5_leaves 59 = .ok (.iconst 1, 1) := by decide +kernel
theorem dX5_leaves_60 : decode cX5_leaves 60 = .ok (.isub, 1) := by decide +kernel
theorem dX5_leaves_61 : decode cX5_leaves 61 = .ok (.invokevirtual 57, 3) := by decide +kernel
theorem dX5_leaves_64 : decode cX5_leaves 64 = .ok (.astore 4, 2) := by decide +kernel
theorem dX5_leaves_66 : decode cX5_leaves 66 = .ok (.aload 4, 2) := by decide +kernel
theorem dX5_leaves_68 : decode cX5_leaves 68 = .ok (.ifnonnull 19, 3) := by decide +kernel
theorem dX5_leaves_71 : decode cX5_leaves 71 = .ok (.aload_n 1, 1) := by decide +kernel
theorem dX5_leaves_72 : decode cX5_leaves 72 = .ok (.bipush 8, 2) := by decide +kernel
theorem dX5_leaves_74 : decode cX5_leaves 74 = .ok (.putfield 199, 3) := by decide +kernel
theorem dX5_leaves_77 : decode cX5_leaves 77 = .ok (.aload_n 1, 1) := by decide +kernel
theorem dX5_leaves_78 : decode cX5_leaves 78 = .ok (.aload_n 0, 1) := by decide +kernel
theorem dX5_leaves_79 : decode cX5_leaves 79 = .ok (.getfield 53, 3) := by decide +kernel
theorem dX5_leaves_82 : decode cX5_leaves 82 = .ok (.putfield 202, 3) := by decide +kernel
theorem dX5_leaves_85 : decode cX5_leaves 85 = .ok (.iconst 1, 1) := by decide +kernel
theorem dX5_leaves_86 : decode cX5_leaves 86 = .ok (.ireturn, 1) := by decide +kernel
theorem dX5_leaves_87 : decode cX5_leaves 87 = .ok (.aload_n 0, 1) := by decide +kernel
theorem dX5_leaves_88 : decode cX5_leaves 88 = .ok (.aload_n 1, 1) := by decide +kernel
theorem dX5_leaves_89 : decode cX5_leaves 89 = .ok (.aload 4, 2) := by decide +kernel
theorem dX5_leaves_91 : decode cX5_leaves 91 = .ok (.aload_n 0, 1) := by decide +kernel
theorem dX5_leaves_92 : decode cX5_leaves 92 = .ok (.aload_n 1, 1) := by decide +kernel
theorem dX5_leaves_93 : decode cX5_leaves 93 = .ok (.aload 4, 2) := by decide +kernel
theorem dX5_leaves_95 : decode cX5_leaves 95 = .ok (.invokevirtual 205, 3) := by decide +kernel
theorem dX5_leaves_98 : decode cX5_leaves 98 = .ok (.invokevirtual 209, 3) := by decide +kernel
theorem dX5_leaves_101 : decode cX5_leaves 101 = .ok (.ireturn, 1) := by decide +kernel
theorem dX5_letFirstIn_0 : decode cX5_letFirstIn 0 = .ok (.aload_n 0, 1) := by decide +kernel
theorem dX5_letFirstIn_1 : decode cX5_letFirstIn 1 = .ok (.iload_n 1, 1) := by decide +kernel
theorem dX5_letFirstIn_2 : decode cX5_letFirstIn 2 = .ok (.invokevirtual 151, 3) := by decide +kernel
theorem dX5_letFirstIn_5 : decode cX5_letFirstIn 5 = .ok (.astore_n 2, 1) := by decide +kernel
theorem dX5_letFirstIn_6 : decode cX5_letFirstIn 6 = .ok (.aload_n 2, 1) := by decide +kernel
theorem dX5_letFirstIn_7 : decode cX5_letFirstIn 7 = .ok (.iconst 0, 1) := by decide +kernel
theorem dX5_letFirstIn_8 : decode cX5_letFirstIn 8 = .ok (.invokevirtual 103, 3) := by decide +kernel
theorem dX5_letFirstIn_11 : decode cX5_letFirstIn 11 = .ok (.astore_n 3, 1) := by decide +kernel
theorem dX5_letFirstIn_12 : decode cX5_letFirstIn 12 = .ok (.aload_n 0, 1) := by decide +kernel
theorem dX5_letFirstIn_13 : decode cX5_letFirstIn 13 = .ok (.iload_n 1, 1) := by decide +kernel
theorem dX5_letFirstIn_14 : decode cX5_letFirstIn 14 = .ok (.ifCond .ne 7, 3) := by decide +kernel
theorem dX5_letFirstIn_17 : decode cX5_letFirstIn 17 = .ok (.iconst 0, 1) := by decide +kernel
theorem dX5_letFirstIn_18 : decode cX5_letFirstIn 18 = .ok (.goto 5, 3) := by decide +kernel
theorem dX5_letFirstIn_21 : decode cX5_letFirstIn 21 = .ok (.bipush 7, 2) := by decide +kernel
theorem dX5_letFirstIn_23 : decode cX5_letFirstIn 23 = .ok (.invokevirtual 57, 3) := by decide +kernel
theorem dX5_letFirstIn_26 : decode cX5_letFirstIn 26 = .ok (.astore 4, 2) := by decide +kernel
theorem dX5_letFirstIn_28 : decode cX5_letFirstIn 28 = .ok (.aload_n 3, 1) := by decide +kernel
theorem dX5_letFirstIn_29 : decode cX5_letFirstIn 29 = .ok (.ifnull 8, 3) := by decide +kernel
theorem dX5_letFirstIn_32 : decode cX5_letFirstIn 32 = .ok (.aload 4, 2) := by decide +kernel
theorem dX5_letFirstIn_34 : decode cX5_letFirstIn 34 = .ok (.ifnonnull 4, 3) := by decide +kernel
theorem dX5_letFirstIn_37 : decode cX5_letFirstIn 37 = .ok (.return_, 1) := by decide +kernel
theorem dX5_letFirstIn_38 : decode cX5_letFirstIn 38 = .ok (.iconst 1, 1) := by decide +kernel
theorem dX5_letFirstIn_39 : decode cX5_letFirstIn 39 = .ok (.istore 5, 2) := by decide +kernel
theorem dX5_letFirstIn_41 : decode cX5_letFirstIn 41 = .ok (.iload 5, 2) := by decide +kernel
theorem dX5_letFirstIn_43 : decode cX5_letFirstIn 43 = .ok (.aload_n 2, 1) := by decide +kernel
theorem dX5_letFirstIn_44 : decode cX5_letFirstIn 44 = .ok (.getfield 84, 3) := by decide +kernel
theorem dX5_letFirstIn_47 : decode cX5_letFirstIn 47 = .ok (.if_icmp .ge 29, 3) := by decide +kernel
theorem dX5_letFirstIn_50 : decode cX5_letFirstIn 50 = .ok (.aload_n 2, 1) := by decide +kernel
theorem dX5_letFirstIn_51 : decode cX5_letFirstIn 51 = .ok (.iload 5, 2) := by decide +kernel
theorem dX5_letFirstIn_53 : decode cX5_letFirstIn 53 = .ok (.invokevirtual 103, 3) := by decide +kernel
theorem dX5_letFirstIn_56 : decode cX5_letFirstIn 56 = .ok (.astore 6, 2) := by decide +kernel
theorem dX5_letFirstIn_58 : decode cX5_letFirstIn 58 = .ok (.aload 6, 2) := by decide +kernel
theorem dX5_letFirstIn_60 : decode cX5_letFirstIn 60 = .ok (.ifnull 10, 3) := by decide +kernel
theorem dX5_letFirstIn_63 : decode cX5_letFirstIn 63 = .ok (.aload 6, 2) := by decide +kernel
theorem dX5_letFirstIn_65 : decode cX5_letFirstIn 65 = .ok (.bipush 6, 2) := by decide +kernel
theorem dX5_letFirstIn_67 : decode cX5_letFirstIn 67 = .ok (.invokevirtual 183, 3) := by decide +kernel
theorem dX5_letFirstIn_70 : decode cX5_letFirstIn 70 = .ok (.iinc 5 1, 3) := by decide +kernel
theorem dX5_letFirstIn_73 : decode cX5_letFirstIn 73 = .ok (.goto (-32), 3) := by decide +kernel
theorem dX5_letFirstIn_76 : decode cX5_letFirstIn 76 = .ok (.aload_n 0, 1) := by decide +kernel
theorem dX5_letFirstIn_77 : decode cX5_letFirstIn 77 = .ok (.aload_n 3, 1) := by decide +kernel
theorem dX5_letFirstIn_78 : decode cX5_letFirstIn 78 = .ok (.aload 4, 2) := by decide +kernel
theorem dX5_letFirstIn_80 : decode cX5_letFirstIn 80 = .ok (.aload_n 0, 1) := by decide +kernel
theorem dX5_letFirstIn_81 : decode cX5_letFirstIn 81 = .ok (.aload_n 3, 1) := by decide +kernel
theorem dX5_letFirstIn_82 : decode cX5_letFirstIn 82 = .ok (.aload 4, 2) := by decide +kernel
theorem dX5_letFirstIn_84 : decode cX5_letFirstIn 84 = .ok (.invokevirtual 205, 3) := by decide +kernel
theorem dX5_letFirstIn_87 : decode cX5_letFirstIn 87 = .ok (.invokevirtual 209, 3) := by decide +kernel
theorem dX5_letFirstIn_90 : decode cX5_letFirstIn 90 = .ok (.ifCond .eq 15, 3) := by decide +kernel
theorem dX5_letFirstIn_93 : decode cX5_letFirstIn 93 = .ok (.aload_n 3, 1) := by decide +kernel
theorem dX5_letFirstIn_94 : decode cX5_letFirstIn 94 = .ok (.aload_n 0, 1) := by decide +kernel
theorem dX5_letFirstIn_95 : decode cX5_letFirstIn 95 = .ok (.getfield 53, 3) := by decide +kernel
theorem dX5_letFirstIn_98 : decode cX5_letFirstIn 98 = .ok (.putfield 213, 3) := by decide +kernel
theorem dX5_letFirstIn_101 : decode cX5_letFirstIn 101 = .ok (.aload_n 2, 1) := by decide +kernel
theorem dX5_letFirstIn_102 : decode cX5_letFirstIn 102 = .ok (.invokevirtual 190, 3) := by decide +kernel
theorem dX5_letFirstIn_105 : decode cX5_letFirstIn 105 = .ok (.return_, 1) := by decide +kernel
theorem dX5_comesInto_0 : decode cX5_comesInto 0 = .ok (.iload_n 3, 1) := by decide +kernel
theorem dX5_comesInto_1 : decode cX5_comesInto 1 = .ok (.bipush (-4), 2) := by decide +kernel
theorem dX5_comesInto_3 : decode cX5_comesInto 3 = .ok (.if_icmp .eq 10, 3) := by decide +kernel
theorem dX5_comesInto_6 : decode cX5_comesInto 6 = .ok (.aload_n 1, 1) := by decide +kernel
theorem dX5_comesInto_7 : decode cX5_comesInto 7 = .ok (.iload_n 3, 1) := by decide +kernel
theorem dX5_comesInto_8 : decode cX5_comesInto 8 = .ok (.invokevirtual 183, 3) := by decide +kernel
theorem dX5_comesInto_11 : decode cX5_comesInto 11 = .ok (.iconst 0, 1) := by decide +kernel
theorem dX5_comesInto_12 : decode cX5_comesInto 12 = .ok (.ireturn, 1) := by decide +kernel
theorem dX5_comesInto_13 : decode cX5_comesInto 13 = .ok (.aload_n 2, 1) := by decide +kernel
theorem dX5_comesInto_14 : decode cX5_comesInto 14 = .ok (.aload_n 1, 1) := by decide +kernel
theorem dX5_comesInto_15 : decode cX5_comesInto 15 = .ok (.getfield 110, 3) := by decide +kernel
theorem dX5_comesInto_18 : decode cX5_comesInto 18 = .ok (.invokevirtual 172, 3) := by decide +kernel
theorem dX5_comesInto_21 : decode cX5_comesInto 21 = .ok (.astore 4, 2) := by decide +kernel
theorem dX5_comesInto_23 : decode cX5_comesInto 23 = .ok (.aload 4, 2) := by decide +kernel
theorem dX5_comesInto_25 : decode cX5_comesInto 25 = .ok (.getfield 176, 3) := by decide +kernel
theorem dX5_comesInto_28 : decode cX5_comesInto 28 = .ok (.aload_n 1, 1) := by decide +kernel
theorem dX5_comesInto_29 : decode cX5_comesInto 29 = .ok (.invokevirtual 92, 3) := by decide +kernel
theorem dX5_comesInto_32 : decode cX5_comesInto 32 = .ok (.aload 4, 2) := by decide +kernel
theorem dX5_comesInto_34 : decode cX5_comesInto 34 = .ok (.aload_n 0, 1) := by decide +kernel
theorem dX5_comesInto_35 : decode cX5_comesInto 35 = .ok (.getfield 53, 3) := by decide +kernel
theorem dX5_comesInto_38 : decode cX5_comesInto 38 = .ok (.putfield 216, 3) := by decide +kernel
theorem dX5_comesInto_41 : decode cX5_comesInto 41 = .ok (.aload_n 1, 1) := by decide +kernel
theorem dX5_comesInto_42 : decode cX5_comesInto 42 = .ok (.aload_n 2, 1) := by decide +kernel
theorem dX5_comesInto_43 : decode cX5_comesInto 43 = .ok (.getfield 196, 3) := by decide +kernel
theorem dX5_comesInto_46 : decode cX5_comesInto 46 = .ok (.putfield 199, 3) := by decide +kernel
theorem dX5_comesInto_49 : decode cX5_comesInto 49 = .ok (.aload_n 1, 1) := by decide +kernel
theorem dX5_comesInto_50 : decode cX5_comesInto 50 = .ok (.aload_n 1, 1) := by decide +kernel
theorem dX5_comesInto_51 : decode cX5_comesInto 51 = .ok (.getfield 219, 3) := by decide +kernel
theorem dX5_comesInto_54 : decode cX5_comesInto 54 = .ok (.ifCond .eq 12, 3) := by decide +kernel
theorem dX5_comesInto_57 : decode cX5_comesInto 57 = .ok (.iconst 2, 1) := by decide +kernel
theorem dX5_comesInto_58 : decode cX5_comesInto 58 = .ok (.aload_n 2, 1) := by decide +kernel
theorem dX5_comesInto_59 : decode cX5_comesInto 59 = .ok (.getfield 65, 3) := by decide +kernel
theorem dX5_comesInto_62 : decode cX5_comesInto 62 = .ok (.imul, 1) := by decide +kernel
theorem dX5_comesInto_63 : decode cX5_comesInto 63 = .ok (.goto 7, 3) := by decide +kernel
theorem dX5_comesInto_66 : decode cX5_comesInto 66 = .ok (.aload_n 2, 1) := by decide +kernel
theorem dX5_comesInto_67 : decode cX5_comesInto 67 = .ok (.getfield 65, 3) := by decide +kernel
theorem dX5_comesInto_70 : decode cX5_comesInto 70 = .ok (.putfield 193, 3) := by decide +kernel
theorem dX5_comesInto_73 : decode cX5_comesInto 73 = .ok (.iconst 1, 1) := by decide +kernel
theorem dX5_comesInto_74 : decode cX5_comesInto 74 = .ok (.ireturn, 1) := by decide +kernel
theorem dX5_causeAgainst_0 : decode cX5_causeAgainst 0 = .ok (.aload_n 2, 1) := by decide +kernel
theorem dX5_causeAgainst_1 : decode cX5_causeAgainst 1 = .ok (.getfield 222, 3) := by decide +kernel
theorem dX5_causeAgainst_4 : decode cX5_causeAgainst 4 = .ok (.getfield 176, 3) := by decide +kernel
theorem dX5_causeAgainst_7 : decode cX5_causeAgainst 7 = .ok (.aload_n 0, 1) := by decide +kernel
theorem dX5_causeAgainst_8 : decode cX5_causeAgainst 8 = .ok (.getfield 53, 3) := by decide +kernel
theorem dX5_causeAgainst_11 : decode cX5_causeAgainst 11 = .ok (.invokevirtual 226, 3) := by decide +kernel
theorem dX5_causeAgainst_14 : decode cX5_causeAgainst 14 = .ok (.ifCond .ne 20, 3) := by decide +kernel
theorem dX5_causeAgainst_17 : decode cX5_causeAgainst 17 = .ok (.aload_n 2, 1) := by decide +kernel
theorem dX5_causeAgainst_18 : decode cX5_causeAgainst 18 = .ok (.getfield 229, 3) := by decide +kernel
theorem dX5_causeAgainst_21 : decode cX5_causeAgainst 21 = .ok (.getfield 176, 3) := by decide +kernel
theorem dX5_causeAgainst_24 : decode cX5_causeAgainst 24 = .ok (.aload_n 0, 1) := by decide +kernel
theorem dX5_causeAgainst_25 : decode cX5_causeAgainst 25 = .ok (.getfield 53, 3) := by decide +kernel
theorem dX5_causeAgainst_28 : decode cX5_causeAgainst 28 = .ok (.invokevirtual 226, 3) := by decide +kernel
theorem dX5_causeAgainst_31 : decode cX5_causeAgainst 31 = .ok (.ifCond .eq 5, 3) := by decide +kernel
theorem dX5_causeAgainst_34 : decode cX5_causeAgainst 34 = .ok (.iconst 0, 1) := by decide +kernel
theorem dX5_causeAgainst_35 : decode cX5_causeAgainst 35 = .ok (.ireturn, 1) := by decide +kernel
theorem dX5_causeAgainst_36 : decode cX5_causeAgainst 36 = .ok (.aload_n 1, 1) := by decide +kernel
theorem dX5_causeAgainst_37 : decode cX5_causeAgainst 37 = .ok (.getfield 110, 3) := by decide +kernel
theorem dX5_causeAgainst_40 : decode cX5_causeAgainst 40 = .ok (.ifCond .ne 7, 3) := by decide +kernel
theorem dX5_causeAgainst_43 : decode cX5_causeAgainst 43 = .ok (.iconst 1, 1) := by decide +kernel
theorem dX5_causeAgainst_44 : decode cX5_causeAgainst 44 = .ok (.goto 4, 3) := by decide +kernel
theorem dX5_causeAgainst_47 : decode cX5_causeAgainst 47 = .ok (.iconst 0, 1) := by decide +kernel
theorem dX5_causeAgainst_48 : decode cX5_causeAgainst 48 = .ok (.istore_n 3, 1) := by decide +kernel
theorem dX5_causeAgainst_49 : decode cX5_causeAgainst 49 = .ok (.aload_n 0, 1) := by decide +kernel
theorem dX5_causeAgainst_50 : decode cX5_causeAgainst 50 = .ok (.aload_n 2, 1) := by decide +kernel
theorem dX5_causeAgainst_51 : decode cX5_causeAgainst 51 = .ok (.getfield 196, 3) := by decide +kernel
theorem dX5_causeAgainst_54 : decode cX5_causeAgainst 54 = .ok (.iconst 1, 1) := by decide +kernel
theorem dX5_causeAgainst_55 : decode cX5_causeAgainst 55 = .ok (.iload_n 3, 1) := by decide +kernel
theorem dX5_causeAgainst_56 : decode cX5_causeAgainst 56 = .ok (.invokevirtual 232, 3) := by decide +kernel
theorem dX5_causeAgainst_59 : decode cX5_causeAgainst 59 = .ok (.ifCond .ne 16, 3) := by decide +kernel
theorem dX5_causeAgainst_62 : decode cX5_causeAgainst 62 = .ok (.aload_n 0, 1) := by decide +kernel
theorem dX5_causeAgainst_63 : decode cX5_causeAgainst 63 = .ok (.aload_n 2, 1) := by decide +kernel
theorem dX5_causeAgainst_64 : decode cX5_causeAgainst 64 = .ok (.getfield 196, 3) := by decide +kernel
theorem dX5_causeAgainst_67 : decode cX5_causeAgainst 67 = .ok (.iconst (-1), 1) := by decide +kernel
theorem dX5_causeAgainst_68 : decode cX5_causeAgainst 68 = .ok (.iload_n 3, 1) := by decide +kernel
theorem dX5_causeAgainst_69 : decode cX5_causeAgainst 69 = .ok (.invokevirtual 232, 3) := by decide +kernel
theorem dX5_causeAgainst_72 : decode cX5_causeAgainst 72 = .ok (.ifCond .eq 5, 3) := by decide +kernel
theorem dX5_causeAgainst_75 : decode cX5_causeAgainst 75 = .ok (.iconst 1, 1) := by decide +kernel
theorem dX5_causeAgainst_76 : decode cX5_causeAgainst 76 = .ok (.ireturn, 1) := by decide +kernel
theorem dX5_causeAgainst_77 : decode cX5_causeAgainst 77 = .ok (.aload_n 2, 1) := by decide +kernel
theorem dX5_causeAgainst_78 : decode cX5_causeAgainst 78 = .ok (.aload_n 1, 1) := by decide +kernel
theorem dX5_causeAgainst_79 : decode cX5_causeAgainst 79 = .ok (.getfield 110, 3) := by decide +kernel
theorem dX5_causeAgainst_82 : decode cX5_causeAgainst 82 = .ok (.invokevirtual 172, 3) := by decide +kernel
theorem dX5_causeAgainst_85 : decode cX5_causeAgainst 85 = .ok (.astore 4, 2) := by decide +kernel
theorem dX5_causeAgainst_87 : decode cX5_causeAgainst 87 = .ok (.aload 4, 2) := by decide +kernel
theorem dX5_causeAgainst_89 : decode cX5_causeAgainst 89 = .ok (.getfield 176, 3) := by decide +kernel
theorem dX5_causeAgainst_92 : decode cX5_causeAgainst 92 = .ok (.invokevirtual 80, 3) := by decide +kernel
theorem dX5_causeAgainst_95 : decode cX5_causeAgainst 95 = .ok (.ifCond .eq 5, 3) := by decide +kernel
theorem dX5_causeAgainst_98 : decode cX5_causeAgainst 98 = .ok (.iconst 2, 1) := by decide +kernel
theorem dX5_causeAgainst_99 : decode cX5_causeAgainst 99 = .ok (.ireturn, 1) := by decide +kernel
theorem dX5_causeAgainst_100 : decode cX5_causeAgainst 100 = .ok (.aload_n 0, 1) := by decide +kernel
theorem dX5_causeAgainst_101 : decode cX5_causeAgainst 101 = .ok (.getfield 53, 3) := by decide +kernel
theorem dX5_causeAgainst_104 : decode cX5_causeAgainst 104 = .ok (.aload 4, 2) := by decide +kernel
theorem dX5_causeAgainst_106 : decode cX5_causeAgainst 106 = .ok (.getfield 216, 3) := by decide +kernel
theorem dX5_causeAgainst_109 : decode cX5_causeAgainst 109 = .ok (.isub, 1) := by decide +kernel
theorem dX5_causeAgainst_110 : decode cX5_causeAgainst 110 = .ok (.aload_n 0, 1) := by decide +kernel
theorem dX5_causeAgainst_111 : decode cX5_causeAgainst 111 = .ok (.getfield 47, 3) := by decide +kernel
theorem dX5_causeAgainst_114 : decode cX5_causeAgainst 114 = .ok (.if_icmp .ge 5, 3) := by decide +kernel
theorem dX5_causeAgainst_117 : decode cX5_causeAgainst 117 = .ok (.iconst 3, 1) := by decide +kernel
theorem dX5_causeAgainst_118 : decode cX5_causeAgainst 118 = .ok (.ireturn, 1) := by decide +kernel
theorem dX5_causeAgainst_119 : decode cX5_causeAgainst 119 = .ok (.aload_n 1, 1) := by decide +kernel
theorem dX5_causeAgainst_120 : decode cX5_causeAgainst 120 = .ok (.getfield 235, 3) := by decide +kernel
theorem dX5_causeAgainst_123 : decode cX5_causeAgainst 123 = .ok (.aload_n 0, 1) := by decide +kernel
theorem dX5_causeAgainst_124 : decode cX5_causeAgainst 124 = .ok (.aload_n 2, 1) := by decide +kernel
theorem dX5_causeAgainst_125 : decode cX5_causeAgainst 125 = .ok (.invokevirtual 238, 3) := by decide +kernel
theorem dX5_causeAgainst_128 : decode cX5_causeAgainst 128 = .ok (.if_icmp .le 5, 3) := by decide +kernel
theorem dX5_causeAgainst_131 : decode cX5_causeAgainst 131 = .ok (.iconst 4, 1) := by decide +kernel
theorem dX5_causeAgainst_132 : decode cX5_causeAgainst 132 = .ok (.ireturn, 1) := by decide +kernel
theorem dX5_causeAgainst_133 : decode cX5_causeAgainst 133 = .ok (.aload_n 1, 1) := by decide +kernel
theorem dX5_causeAgainst_134 : decode cX5_causeAgainst 134 = .ok (.getfield 242, 3) := by decide +kernel
theorem dX5_causeAgainst_137 : decode cX5_causeAgainst 137 = .ok (.ifCond .eq 19, 3) := by decide +kernel
theorem dX5_causeAgainst_140 : decode cX5_causeAgainst 140 = .ok (.aload_n 2, 1) := by decide +kernel
theorem dX5_causeAgainst_141 : decode cX5_causeAgainst 141 = .ok (.getfield 71, 3) := by decide +kernel
theorem dX5_causeAgainst_144 : decode cX5_causeAgainst 144 = .ok (.ifCond .ne 12, 3) := by decide +kernel
theorem dX5_causeAgainst_147 : decode cX5_causeAgainst 147 = .ok (.aload_n 0, 1) := by decide +kernel
theorem dX5_causeAgainst_148 : decode cX5_causeAgainst 148 = .ok (.invokevirtual 245, 3) := by decide +kernel
theorem dX5_causeAgainst_151 : decode cX5_causeAgainst 151 = .ok (.ifCond .eq 5, 3) := by decide +kernel
theorem dX5_causeAgainst_154 : decode cX5_causeAgainst 154 = .ok (.iconst 5, 1) := by decide +kernel
theorem dX5_causeAgainst_155 : decode cX5_causeAgainst 155 = .ok (.ireturn, 1) := by decide +kernel
theorem dX5_causeAgainst_156 : decode cX5_causeAgainst 156 = .ok (.bipush (-4), 2) := by decide +kernel
theorem dX5_causeAgainst_158 : decode cX5_causeAgainst 158 = .ok (.ireturn, 1) := by decide +kernel
theorem dX5_reachesShip_0 : decode cX5_reachesShip 0 = .ok (.iload_n 1, 1) := by decide +kernel
theorem dX5_reachesShip_1 : decode cX5_reachesShip 1 = .ok (.istore 4, 2) := by decide +kernel
theorem dX5_reachesShip_3 : decode cX5_reachesShip 3 = .ok (.iconst 0, 1) := by decide +kernel
theorem dX5_reachesShip_4 : decode cX5_reachesShip 4 = .ok (.istore 5, 2) := by decide +kernel
theorem dX5_reachesShip_6 : decode cX5_reachesShip 6 = .ok (.iload 5, 2) := by decide +kernel
theorem dX5_reachesShip_8 : decode cX5_reachesShip 8 = .ok (.bipush 8, 2) := by decide +kernel
theorem dX5_reachesShip_10 : decode cX5_reachesShip 10 = .ok (.if_icmp .ge 55, 3) := by decide +kernel
theorem dX5_reachesShip_13 : decode cX5_reachesShip 13 = .ok (.aload_n 0, 1) := by decide +kernel
theorem dX5_reachesShip_14 : decode cX5_reachesShip 14 = .ok (.iload 4, 2) := by decide +kernel
theorem dX5_reachesShip_16 : decode cX5_reachesShip 16 = .ok (.invokevirtual 57, 3) := by decide +kernel
theorem dX5_reachesShip_19 : decode cX5_reachesShip 19 = .ok (.astore 6, 2) := by decide +kernel
theorem dX5_reachesShip_21 : decode cX5_reachesShip 21 = .ok (.aload 6, 2) := by decide +kernel
theorem dX5_reachesShip_23 : decode cX5_reachesShip 23 = .ok (.ifnull 11, 3) := by decide +kernel
theorem dX5_reachesShip_26 : decode cX5_reachesShip 26 = .ok (.aload 6, 2) := by decide +kernel
theorem dX5_reachesShip_28 : decode cX5_reachesShip 28 = .ok (.getfield 71, 3) := by decide +kernel
theorem dX5_reachesShip_31 : decode cX5_reachesShip 31 = .ok (.ifCond .eq 5, 3) := by decide +kernel
theorem dX5_reachesShip_34 : decode cX5_reachesShip 34 = .ok (.iconst 0, 1) := by decide +kernel
theorem dX5_reachesShip_35 : decode cX5_reachesShip 35 = .ok (.ireturn, 1) := by decide +kernel
theorem dX5_reachesShip_36 : decode cX5_reachesShip 36 = .ok (.aload 6, 2) := by decide +kernel
theorem dX5_reachesShip_38 : decode cX5_reachesShip 38 = .ok (.iload_n 3, 1) := by decide +kernel
theorem dX5_reachesShip_39 : decode cX5_reachesShip 39 = .ok (.invokevirtual 172, 3) := by decide +kernel
theorem dX5_reachesShip_42 : decode cX5_reachesShip 42 = .ok (.getfield 176, 3) := by decide +kernel
theorem dX5_reachesShip_45 : decode cX5_reachesShip 45 = .ok (.getfield 84, 3) := by decide +kernel
theorem dX5_reachesShip_48 : decode cX5_reachesShip 48 = .ok (.ifCond .le 5, 3) := by decide +kernel
theorem dX5_reachesShip_51 : decode cX5_reachesShip 51 = .ok (.iconst 1, 1) := by decide +kernel
theorem dX5_reachesShip_52 : decode cX5_reachesShip 52 = .ok (.ireturn, 1) := by decide +kernel
theorem dX5_reachesShip_53 : decode cX5_reachesShip 53 = .ok (.iload 4, 2) := by decide +kernel
theorem dX5_reachesShip_55 : decode cX5_reachesShip 55 = .ok (.iload_n 2, 1) := by decide +kernel
theorem dX5_reachesShip_56 : decode cX5_reachesShip 56 = .ok (.iadd, 1) := by decide +kernel
theorem dX5_reachesShip_57 : decode cX5_reachesShip 57 = .ok (.istore 4, 2) := by decide +kernel
theorem dX5_reachesShip_59 : decode cX5_reachesShip 59 = .ok (.iinc 5 1, 3) := by decide +kernel
theorem dX5_reachesShip_62 : decode cX5_reachesShip 62 = .ok (.goto (-56), 3) := by decide +kernel
theorem dX5_reachesShip_65 : decode cX5_reachesShip 65 = .ok (.iconst 0, 1) := by decide +kernel
theorem dX5_reachesShip_66 : decode cX5_reachesShip 66 = .ok (.ireturn, 1) := by decide +kernel
theorem dX5_depthNow_0 : decode cX5_depthNow 0 = .ok (.aload_n 1, 1) := by decide +kernel
theorem dX5_depthNow_1 : decode cX5_depthNow 1 = .ok (.getfield 196, 3) := by decide +kernel
theorem dX5_depthNow_4 : decode cX5_depthNow 4 = .ok (.ifCond .eq 12, 3) := by decide +kernel
theorem dX5_depthNow_7 : decode cX5_depthNow 7 = .ok (.aload_n 1, 1) := by decide +kernel
theorem dX5_depthNow_8 : decode cX5_depthNow 8 = .ok (.getfield 196, 3) := by decide +kernel
theorem dX5_depthNow_11 : decode cX5_depthNow 11 = .ok (.bipush 7, 2) := by decide +kernel
theorem dX5_depthNow_13 : decode cX5_depthNow 13 = .ok (.if_icmp .ne 7, 3) := by decide +kernel
theorem dX5_depthNow_16 : decode cX5_depthNow 16 = .ok (.iconst 1, 1) := by decide +kernel
theorem dX5_depthNow_17 : decode cX5_depthNow 17 = .ok (.goto 4, 3) := by decide +kernel
theorem dX5_depthNow_20 : decode cX5_depthNow 20 = .ok (.iconst 0, 1) := by decide +kernel
theorem dX5_depthNow_21 : decode cX5_depthNow 21 = .ok (.istore_n 2, 1) := by decide +kernel
theorem dX5_depthNow_22 : decode cX5_depthNow 22 = .ok (.iload_n 2, 1) := by decide +kernel
theorem dX5_depthNow_23 : decode cX5_depthNow 23 = .ok (.ifCond .eq 20, 3) := by decide +kernel
theorem dX5_depthNow_26 : decode cX5_depthNow 26 = .ok (.aload_n 1, 1) := by decide +kernel
theorem dX5_depthNow_27 : decode cX5_depthNow 27 = .ok (.getfield 68, 3) := by decide +kernel
theorem dX5_depthNow_30 : decode cX5_depthNow 30 = .ok (.aload_n 0, 1) := by decide +kernel
theorem dX5_depthNow_31 : decode cX5_depthNow 31 = .ok (.getfield 15, 3) := by decide +kernel
theorem dX5_depthNow_34 : decode cX5_depthNow 34 = .ok (.aload_n 0, 1) := by decide +kernel
theorem dX5_depthNow_35 : decode cX5_depthNow 35 = .ok (.invokevirtual 248, 3) := by decide +kernel
theorem dX5_depthNow_38 : decode cX5_depthNow 38 = .ok (.iaload, 1) := by decide +kernel
theorem dX5_depthNow_39 : decode cX5_depthNow 39 = .ok (.iadd, 1) := by decide +kernel
theorem dX5_depthNow_40 : decode cX5_depthNow 40 = .ok (.goto 7, 3) := by decide +kernel
theorem dX5_depthNow_43 : decode cX5_depthNow 43 = .ok (.aload_n 1, 1) := by decide +kernel
theorem dX5_depthNow_44 : decode cX5_depthNow 44 = .ok (.getfield 68, 3) := by decide +kernel
theorem dX5_depthNow_47 : decode cX5_depthNow 47 = .ok (.ireturn, 1) := by decide +kernel
theorem dX5_windBarsGreat_0 : decode cX5_windBarsGreat 0 = .ok (.aload_n 0, 1) := by decide +kernel
theorem dX5_windBarsGreat_1 : decode cX5_windBarsGreat 1 = .ok (.getfield 19, 3) := by decide +kernel
theorem dX5_windBarsGreat_4 : decode cX5_windBarsGreat 4 = .ok (.aload_n 0, 1) := by decide +kernel
theorem dX5_windBarsGreat_5 : decode cX5_windBarsGreat 5 = .ok (.invokevirtual 248, 3) := by decide +kernel
theorem dX5_windBarsGreat_8 : decode cX5_windBarsGreat 8 = .ok (.iaload, 1) := by decide +kernel
theorem dX5_windBarsGreat_9 : decode cX5_windBarsGreat 9 = .ok (.istore_n 1, 1) := by decide +kernel
theorem dX5_windBarsGreat_10 : decode cX5_windBarsGreat 10 = .ok (.iload_n 1, 1) := by decide +kernel
theorem dX5_windBarsGreat_11 : decode cX5_windBarsGreat 11 = .ok (.iconst (-1), 1) := by decide +kernel
theorem dX5_windBarsGreat_12 : decode cX5_windBarsGreat 12 = .ok (.if_icmp .eq 9, 3) := by decide +kernel
theorem dX5_windBarsGreat_15 : decode cX5_windBarsGreat 15 = .ok (.iload_n 1, 1) := by decide +kernel
theorem dX5_windBarsGreat_16 : decode cX5_windBarsGreat 16 = .ok (.bipush 6, 2) := by decide +kernel
theorem dX5_windBarsGreat_18 : decode cX5_windBarsGreat 18 = .ok (.if_icmp .le 7, 3) := by decide +kernel
theorem dX5_windBarsGreat_21 : decode cX5_windBarsGreat 21 = .ok (.iconst 1, 1) := by decide +kernel
theorem dX5_windBarsGreat_22 : decode cX5_windBarsGreat 22 = .ok (.goto 4, 3) := by decide +kernel
theorem dX5_windBarsGreat_25 : decode cX5_windBarsGreat 25 = .ok (.iconst 0, 1) := by decide +kernel
theorem dX5_windBarsGreat_26 : decode cX5_windBarsGreat 26 = .ok (.ireturn, 1) := by decide +kernel
theorem dX5_hourNow_0 : decode cX5_hourNow 0 = .ok (.aload_n 0, 1) := by decide +kernel
theorem dX5_hourNow_1 : decode cX5_hourNow 1 = .ok (.getfield 53, 3) := by decide +kernel
theorem dX5_hourNow_4 : decode cX5_hourNow 4 = .ok (.bipush 60, 2) := by decide +kernel
theorem dX5_hourNow_6 : decode cX5_hourNow 6 = .ok (.idiv, 1) := by decide +kernel
theorem dX5_hourNow_7 : decode cX5_hourNow 7 = .ok (.bipush 24, 2) := by decide +kernel
theorem dX5_hourNow_9 : decode cX5_hourNow 9 = .ok (.irem, 1) := by decide +kernel
theorem dX5_hourNow_10 : decode cX5_hourNow 10 = .ok (.ireturn, 1) := by decide +kernel
theorem dX5_told_0 : decode cX5_told 0 = .ok (.aload_n 0, 1) := by decide +kernel
theorem dX5_told_1 : decode cX5_told 1 = .ok (.getfield 27, 3) := by decide +kernel
theorem dX5_told_4 : decode cX5_told 4 = .ok (.iload_n 1, 1) := by decide +kernel
theorem dX5_told_5 : decode cX5_told 5 = .ok (.invokevirtual 103, 3) := by decide +kernel
theorem dX5_told_8 : decode cX5_told 8 = .ok (.astore_n 3, 1) := by decide +kernel
theorem dX5_told_9 : decode cX5_told 9 = .ok (.aload_n 3, 1) := by decide +kernel
theorem dX5_told_10 : decode cX5_told 10 = .ok (.ifnonnull 6, 3) := by decide +kernel
theorem dX5_told_13 : decode cX5_told 13 = .ok (.bipush (-9), 2) := by decide +kernel
theorem dX5_told_15 : decode cX5_told 15 = .ok (.ireturn, 1) := by decide +kernel
theorem dX5_told_16 : decode cX5_told 16 = .ok (.iload_n 2, 1) := by decide +kernel
theorem dX5_told_17 : decode cX5_told 17 = .ok (.tableswitch 132 0 8 #[51, 56, 61, 74, 87, 92, 97, 102, 127], 51) := by decide +kernel
theorem dX5_told_68 : decode cX5_told 68 = .ok (.aload_n 3, 1) := by decide +kernel
theorem dX5_told_69 : decode cX5_told 69 = .ok (.getfield 199, 3) := by decide +kernel
theorem dX5_told_72 : decode cX5_told 72 = .ok (.ireturn, 1) := by decide +kernel
theorem dX5_told_73 : decode cX5_told 73 = .ok (.aload_n 3, 1) := by decide +kernel
theorem dX5_told_74 : decode cX5_told 74 = .ok (.getfield 193, 3) := by decide +kernel
theorem dX5_told_77 : decode cX5_told 77 = .ok (.ireturn, 1) := by decide +kernel
theorem dX5_told_78 : decode cX5_told 78 = .ok (.aload_n 3, 1) := by decide +kernel
theorem dX5_told_79 : decode cX5_told 79 = .ok (.getfield 162, 3) := by decide +kernel
theorem dX5_told_82 : decode cX5_told 82 = .ok (.ifCond .eq 7, 3) := by decide +kernel
theorem dX5_told_85 : decode cX5_told 85 = .ok (.iconst 1, 1) := by decide +kernel
theorem dX5_told_86 : decode cX5_told 86 = .ok (.goto 4, 3) := by decide +kernel
theorem dX5_told_89 : decode cX5_told 89 = .ok (.iconst 0, 1) := by decide +kernel
theorem dX5_told_90 : decode cX5_told 90 = .ok (.ireturn, 1) := by decide +kernel
theorem dX5_told_91 : decode cX5_told 91 = .ok (.aload_n 3, 1) := by decide +kernel
theorem dX5_told_92 : decode cX5_told 92 = .ok (.getfield 169, 3) := by decide +kernel
theorem dX5_told_95 : decode cX5_told 95 = .ok (.ifCond .eq 7, 3) := by decide +kernel
theorem dX5_told_98 : decode cX5_told 98 = .ok (.iconst 1, 1) := by decide +kernel
theorem dX5_told_99 : decode cX5_told 99 = .ok (.goto 4, 3) := by decide +kernel
theorem dX5_told_102 : decode cX5_told 102 = .ok (.iconst 0, 1) := by decide +kernel
theorem dX5_told_103 : decode cX5_told 103 = .ok (.ireturn, 1) := by decide +kernel
theorem dX5_told_104 : decode cX5_told 104 = .ok (.aload_n 3, 1) := by decide +kernel
theorem dX5_told_105 : decode cX5_told 105 = .ok (.getfield 213, 3) := by decide +kernel
theorem dX5_told_108 : decode cX5_told 108 = .ok (.ireturn, 1) := by decide +kernel
theorem dX5_told_109 : decode cX5_told 109 = .ok (.aload_n 3, 1) := by decide +kernel
theorem dX5_told_110 : decode cX5_told 110 = .ok (.getfield 202, 3) := by decide +kernel
theorem dX5_told_113 : decode cX5_told 113 = .ok (.ireturn, 1) := by decide +kernel
theorem dX5_told_114 : decode cX5_told 114 = .ok (.aload_n 3, 1) := by decide +kernel
theorem dX5_told_115 : decode cX5_told 115 = .ok (.invokevirtual 252, 3) := by decide +kernel
theorem dX5_told_118 : decode cX5_told 118 = .ok (.ireturn, 1) := by decide +kernel
theorem dX5_told_119 : decode cX5_told 119 = .ok (.aload_n 3, 1) := by decide +kernel
theorem dX5_told_120 : decode cX5_told 120 = .ok (.aload_n 0, 1) := by decide +kernel
theorem dX5_told_121 : decode cX5_told 121 = .ok (.getfield 53, 3) := by decide +kernel
theorem dX5_told_124 : decode cX5_told 124 = .ok (.invokevirtual 126, 3) := by decide +kernel
theorem dX5_told_127 : decode cX5_told 127 = .ok (.ifCond .eq 15, 3) := by decide +kernel
theorem dX5_told_130 : decode cX5_told 130 = .ok (.aload_n 3, 1) := by decide +kernel
theorem dX5_told_131 : decode cX5_told 131 = .ok (.getfield 129, 3) := by decide +kernel
theorem dX5_told_134 : decode cX5_told 134 = .ok (.aload_n 0, 1) := by decide +kernel
theorem dX5_told_135 : decode cX5_told 135 = .ok (.getfield 53, 3) := by decide +kernel
theorem dX5_told_138 : decode cX5_told 138 = .ok (.isub, 1) := by decide +kernel
theorem dX5_told_139 : decode cX5_told 139 = .ok (.goto 4, 3) := by decide +kernel
theorem dX5_told_142 : decode cX5_told 142 = .ok (.iconst 0, 1) := by decide +kernel
theorem dX5_told_143 : decode cX5_told 143 = .ok (.ireturn, 1) := by decide +kernel
theorem dX5_told_144 : decode cX5_told 144 = .ok (.aload_n 3, 1) := by decide +kernel
theorem dX5_told_145 : decode cX5_told 145 = .ok (.getfield 111, 3) := by decide +kernel
theorem dX5_told_148 : decode cX5_told 148 = .ok (.ireturn, 1) := by decide +kernel
theorem dX5_told_149 : decode cX5_told 149 = .ok (.bipush (-9), 2) := by decide +kernel
theorem dX5_told_151 : decode cX5_told 151 = .ok (.ireturn, 1) := by decide +kernel
theorem dX5_waited_0 : decode cX5_waited 0 = .ok (.aload_n 0, 1) := by decide +kernel
theorem dX5_waited_1 : decode cX5_waited 1 = .ok (.getfield 27, 3) := by decide +kernel
theorem dX5_waited_4 : decode cX5_waited 4 = .ok (.iload_n 1, 1) := by decide +kernel
theorem dX5_waited_5 : decode cX5_waited 5 = .ok (.invokevirtual 103, 3) := by decide +kernel
theorem dX5_waited_8 : decode cX5_waited 8 = .ok (.astore_n 3, 1) := by decide +kernel
theorem dX5_waited_9 : decode cX5_waited 9 = .ok (.aload_n 3, 1) := by decide +kernel
theorem dX5_waited_10 : decode cX5_waited 10 = .ok (.ifnull 13, 3) := by decide +kernel
theorem dX5_waited_13 : decode cX5_waited 13 = .ok (.iload_n 2, 1) := by decide +kernel
theorem dX5_waited_14 : decode cX5_waited 14 = .ok (.iconst (-1), 1) := by decide +kernel
theorem dX5_waited_15 : decode cX5_waited 15 = .ok (.bipush 6, 2) := by decide +kernel
theorem dX5_waited_17 : decode cX5_waited 17 = .ok (.invokestatic 61, 3) := by decide +kernel
theorem dX5_waited_20 : decode cX5_waited 20 = .ok (.ifCond .ne 5, 3) := by decide +kernel
theorem dX5_waited_23 : decode cX5_waited 23 = .ok (.iconst (-1), 1) := by decide +kernel
theorem dX5_waited_24 : decode cX5_waited 24 = .ok (.ireturn, 1) := by decide +kernel
theorem dX5_waited_25 : decode cX5_waited 25 = .ok (.iload_n 2, 1) := by decide +kernel
theorem dX5_waited_26 : decode cX5_waited 26 = .ok (.iconst (-1), 1) := by decide +kernel
theorem dX5_waited_27 : decode cX5_waited 27 = .ok (.if_icmp .ne 10, 3) := by decide +kernel
theorem dX5_waited_30 : decode cX5_waited 30 = .ok (.aload_n 3, 1) := by decide +kernel
theorem dX5_waited_31 : decode cX5_waited 31 = .ok (.invokevirtual 255, 3) := by decide +kernel
theorem dX5_waited_34 : decode cX5_waited 34 = .ok (.goto 9, 3) := by decide +kernel
theorem dX5_waited_37 : decode cX5_waited 37 = .ok (.aload_n 3, 1) := by decide +kernel
theorem dX5_waited_38 : decode cX5_waited 38 = .ok (.getfield 258, 3) := by decide +kernel
theorem dX5_waited_41 : decode cX5_waited 41 = .ok (.iload_n 2, 1) := by decide +kernel
theorem dX5_waited_42 : decode cX5_waited 42 = .ok (.iaload, 1) := by decide +kernel
theorem dX5_waited_43 : decode cX5_waited 43 = .ok (.ireturn, 1) := by decide +kernel
theorem dX5_line_0 : decode cX5_line 0 = .ok (.iload_n 1, 1) := by decide +kernel
theorem dX5_line_1 : decode cX5_line 1 = .ok (.invokestatic 75, 3) := by decide +kernel
theorem dX5_line_4 : decode cX5_line 4 = .ok (.ifCond .eq 7, 3) := by decide +kernel
theorem dX5_line_7 : decode cX5_line 7 = .ok (.iload_n 2, 1) := by decide +kernel
theorem dX5_line_8 : decode cX5_line 8 = .ok (.ifCond .ge 5, 3) := by decide +kernel
theorem dX5_line_11 : decode cX5_line 11 = .ok (.iconst (-1), 1) := by decide +kernel
theorem dX5_line_12 : decode cX5_line 12 = .ok (.ireturn, 1) := by decide +kernel
theorem dX5_line_13 : decode cX5_line 13 = .ok (.aload_n 0, 1) := by decide +kernel
theorem dX5_line_14 : decode cX5_line 14 = .ok (.iload_n 1, 1) := by decide +kernel
theorem dX5_line_15 : decode cX5_line 15 = .ok (.invokevirtual 151, 3) := by decide +kernel
theorem dX5_line_18 : decode cX5_line 18 = .ok (.iload_n 2, 1) := by decide +kernel
theorem dX5_line_19 : decode cX5_line 19 = .ok (.invokevirtual 261, 3) := by decide +kernel
theorem dX5_line_22 : decode cX5_line 22 = .ok (.ireturn, 1) := by decide +kernel
theorem dX5_in_0 : decode cX5_in 0 = .ok (.aload_n 0, 1) := by decide +kernel
theorem dX5_in_1 : decode cX5_in 1 = .ok (.iload_n 1, 1) := by decide +kernel
theorem dX5_in_2 : decode cX5_in 2 = .ok (.invokevirtual 57, 3) := by decide +kernel
theorem dX5_in_5 : decode cX5_in 5 = .ok (.astore 4, 2) := by decide +kernel
theorem dX5_in_7 : decode cX5_in 7 = .ok (.aload 4, 2) := by decide +kernel
theorem dX5_in_9 : decode cX5_in 9 = .ok (.ifnull 14, 3) := by decide +kernel
theorem dX5_in_12 : decode cX5_in 12 = .ok (.iload_n 2, 1) := by decide +kernel
theorem dX5_in_13 : decode cX5_in 13 = .ok (.invokestatic 75, 3) := by decide +kernel
theorem dX5_in_16 : decode cX5_in 16 = .ok (.ifCond .eq 7, 3) := by decide +kernel
theorem dX5_in_19 : decode cX5_in 19 = .ok (.iload_n 3, 1) := by decide +kernel
theorem dX5_in_20 : decode cX5_in 20 = .ok (.ifCond .ge 5, 3) := by decide +kernel
theorem dX5_in_23 : decode cX5_in 23 = .ok (.iconst (-1), 1) := by decide +kernel
theorem dX5_in_24 : decode cX5_in 24 = .ok (.ireturn, 1) := by decide +kernel
theorem dX5_in_25 : decode cX5_in 25 = .ok (.aload 4, 2) := by decide +kernel
theorem dX5_in_27 : decode cX5_in 27 = .ok (.iload_n 2, 1) := by decide +kernel
theorem dX5_in_28 : decode cX5_in 28 = .ok (.invokevirtual 172, 3) := by decide +kernel
theorem dX5_in_31 : decode cX5_in 31 = .ok (.getfield 176, 3) := by decide +kernel
theorem dX5_in_34 : decode cX5_in 34 = .ok (.iload_n 3, 1) := by decide +kernel
theorem dX5_in_35 : decode cX5_in 35 = .ok (.invokevirtual 261, 3) := by decide +kernel
theorem dX5_in_38 : decode cX5_in 38 = .ok (.ireturn, 1) := by decide +kernel
theorem dX5_count_0 : decode cX5_count 0 = .ok (.iload_n 1, 1) := by decide +kernel
theorem dX5_count_1 : decode cX5_count 1 = .ok (.tableswitch 76 0 7 #[47, 55, 60, 65, 65, 65, 65, 71], 47) := by decide +kernel
theorem dX5_count_48 : decode cX5_count 48 = .ok (.aload_n 0, 1) := by decide +kernel
theorem dX5_count_49 : decode cX5_count 49 = .ok (.getfield 27, 3) := by decide +kernel
theorem dX5_count_52 : decode cX5_count 52 = .ok (.getfield 84, 3) := by decide +kernel
theorem dX5_count_55 : decode cX5_count 55 = .ok (.ireturn, 1) := by decide +kernel
theorem dX5_count_56 : decode cX5_count 56 = .ok (.aload_n 0, 1) := by decide +kernel
theorem dX5_count_57 : decode cX5_count 57 = .ok (.getfield 37, 3) := by decide +kernel
theorem dX5_count_60 : decode cX5_count 60 = .ok (.ireturn, 1) := by decide +kernel
theorem dX5_count_61 : decode cX5_count 61 = .ok (.aload_n 0, 1) := by decide +kernel
theorem dX5_count_62 : decode cX5_count 62 = .ok (.getfield 53, 3) := by decide +kernel
theorem dX5_count_65 : decode cX5_count 65 = .ok (.ireturn, 1) := by decide +kernel
theorem dX5_count_66 : decode cX5_count 66 = .ok (.aload_n 0, 1) := by decide +kernel
theorem dX5_count_67 : decode cX5_count 67 = .ok (.iload_n 1, 1) := by decide +kernel
theorem dX5_count_68 : decode cX5_count 68 = .ok (.invokevirtual 264, 3) := by decide +kernel
theorem dX5_count_71 : decode cX5_count 71 = .ok (.ireturn, 1) := by decide +kernel
theorem dX5_count_72 : decode cX5_count 72 = .ok (.aload_n 0, 1) := by decide +kernel
theorem dX5_count_73 : decode cX5_count 73 = .ok (.invokevirtual 267, 3) := by decide +kernel
theorem dX5_count_76 : decode cX5_count 76 = .ok (.ireturn, 1) := by decide +kernel
theorem dX5_count_77 : decode cX5_count 77 = .ok (.iconst (-1), 1) := by decide +kernel
theorem dX5_count_78 : decode cX5_count 78 = .ok (.ireturn, 1) := by decide +kernel
theorem dX5_shipsThat_0 : decode cX5_shipsThat 0 = .ok (.iconst 0, 1) := by decide +kernel
theorem dX5_shipsThat_1 : decode cX5_shipsThat 1 = .ok (.istore_n 2, 1) := by decide +kernel
theorem dX5_shipsThat_2 : decode cX5_shipsThat 2 = .ok (.iconst 0, 1) := by decide +kernel
theorem dX5_shipsThat_3 : decode cX5_shipsThat 3 = .ok (.istore_n 3, 1) := by decide +kernel
theorem dX5_shipsThat_4 : decode cX5_shipsThat 4 = .ok (.iload_n 3, 1) := by decide +kernel
theorem dX5_shipsThat_5 : decode cX5_shipsThat 5 = .ok (.aload_n 0, 1) := by decide +kernel
theorem dX5_shipsThat_6 : decode cX5_shipsThat 6 = .ok (.getfield 27, 3) := by decide +kernel
theorem dX5_shipsThat_9 : decode cX5_shipsThat 9 = .ok (.getfield 84, 3) := by decide +kernel
theorem dX5_shipsThat_12 : decode cX5_shipsThat 12 = .ok (.if_icmp .ge 36, 3) := by decide +kernel
theorem dX5_shipsThat_15 : decode cX5_shipsThat 15 = .ok (.aload_n 0, 1) := by decide +kernel
theorem dX5_shipsThat_16 : decode cX5_shipsThat 16 = .ok (.getfield 27, 3) := by decide +kernel
theorem dX5_shipsThat_19 : decode cX5_shipsThat 19 = .ok (.iload_n 3, 1) := by decide +kernel
theorem dX5_shipsThat_20 : decode cX5_shipsThat 20 = .ok (.invokevirtual 103, 3) := by decide +kernel
theorem dX5_shipsThat_23 : decode cX5_shipsThat 23 = .ok (.astore 4, 2) := by decide +kernel
theorem dX5_shipsThat_25 : decode cX5_shipsThat 25 = .ok (.aload 4, 2) := by decide +kernel
theorem dX5_shipsThat_27 : decode cX5_shipsThat 27 = .ok (.ifnull 15, 3) := by decide +kernel
theorem dX5_shipsThat_30 : decode cX5_shipsThat 30 = .ok (.aload 4, 2) := by decide +kernel
theorem dX5_shipsThat_32 : decode cX5_shipsThat 32 = .ok (.iload_n 1, 1) := by decide +kernel
theorem dX5_shipsThat_33 : decode cX5_shipsThat 33 = .ok (.invokevirtual 270, 3) := by decide +kernel
theorem dX5_shipsThat_36 : decode cX5_shipsThat 36 = .ok (.ifCond .eq 6, 3) := by decide +kernel
theorem dX5_shipsThat_39 : decode cX5_shipsThat 39 = .ok (.iinc 2 1, 3) := by decide +kernel
theorem dX5_shipsThat_42 : decode cX5_shipsThat 42 = .ok (.iinc 3 1, 3) := by decide +kernel
theorem dX5_shipsThat_45 : decode cX5_shipsThat 45 = .ok (.goto (-41), 3) := by decide +kernel
theorem dX5_shipsThat_48 : decode cX5_shipsThat 48 = .ok (.iload_n 2, 1) := by decide +kernel
theorem dX5_shipsThat_49 : decode cX5_shipsThat 49 = .ok (.ireturn, 1) := by decide +kernel
theorem dX5_mostWaysInOneSection_0 : decode cX5_mostWaysInOneSection 0 = .ok (.iconst 0, 1) := by decide +kernel
theorem dX5_mostWaysInOneSection_1 : decode cX5_mostWaysInOneSection 1 = .ok (.istore_n 1, 1) := by decide +kernel
theorem dX5_mostWaysInOneSection_2 : decode cX5_mostWaysInOneSection 2 = .ok (.iconst 0, 1) := by decide +kernel
theorem dX5_mostWaysInOneSection_3 : decode cX5_mostWaysInOneSection 3 = .ok (.istore_n 2, 1) := by decide +kernel
theorem dX5_mostWaysInOneSection_4 : decode cX5_mostWaysInOneSection 4 = .ok (.iload_n 2, 1) := by decide +kernel
theorem dX5_mostWaysInOneSection_5 : decode cX5_mostWaysInOneSection 5 = .ok (.bipush 8, 2) := by decide +kernel
theorem dX5_mostWaysInOneSection_7 : decode cX5_mostWaysInOneSection 7 = .ok (.if_icmp .ge 35, 3) := by decide +kernel
theorem dX5_mostWaysInOneSection_10 : decode cX5_mostWaysInOneSection 10 = .ok (.aload_n 0, 1) := by decide +kernel
theorem dX5_mostWaysInOneSection_11 : decode cX5_mostWaysInOneSection 11 = .ok (.iload_n 2, 1) := by decide +kernel
theorem dX5_mostWaysInOneSection_12 : decode cX5_mostWaysInOneSection 12 = .ok (.invokevirtual 57, 3) := by decide +kernel
theorem dX5_mostWaysInOneSection_15 : decode cX5_mostWaysInOneSection 15 = .ok (.astore_n 3, 1) := by decide +kernel
theorem dX5_mostWaysInOneSection_16 : decode cX5_mostWaysInOneSection 16 = .ok (.aload_n 3, 1) := by decide +kernel
theorem dX5_mostWaysInOneSection_17 : decode cX5_mostWaysInOneSection 17 = .ok (.ifnull 19, 3) := by decide +kernel
theorem dX5_mostWaysInOneSection_20 : decode cX5_mostWaysInOneSection 20 = .ok (.aload_n 3, 1) := by decide +kernel
theorem dX5_mostWaysInOneSection_21 : decode cX5_mostWaysInOneSection 21 = .ok (.getfield 71, 3) := by decide +kernel
theorem dX5_mostWaysInOneSection_24 : decode cX5_mostWaysInOneSection 24 = .ok (.ifCond .ne 12, 3) := by decide +kernel
theorem dX5_mostWaysInOneSection_27 : decode cX5_mostWaysInOneSection 27 = .ok (.iload_n 1, 1) := by decide +kernel
theorem dX5_mostWaysInOneSection_28 : decode cX5_mostWaysInOneSection 28 = .ok (.aload_n 3, 1) := by decide +kernel
theorem dX5_mostWaysInOneSection_29 : decode cX5_mostWaysInOneSection 29 = .ok (.invokevirtual 273, 3) := by decide +kernel
theorem dX5_mostWaysInOneSection_32 : decode cX5_mostWaysInOneSection 32 = .ok (.invokestatic 276, 3) := by decide +kernel
theorem dX5_mostWaysInOneSection_35 : decode cX5_mostWaysInOneSection 35 = .ok (.istore_n 1, 1) := by decide +kernel
theorem dX5_mostWaysInOneSection_36 : decode cX5_mostWaysInOneSection 36 = .ok (.iinc 2 1, 3) := by decide +kernel
theorem dX5_mostWaysInOneSection_39 : decode cX5_mostWaysInOneSection 39 = .ok (.goto (-35), 3) := by decide +kernel
theorem dX5_mostWaysInOneSection_42 : decode cX5_mostWaysInOneSection 42 = .ok (.iload_n 1, 1) := by decide +kernel
theorem dX5_mostWaysInOneSection_43 : decode cX5_mostWaysInOneSection 43 = .ok (.ireturn, 1) := by decide +kernel
theorem dX5_sectionAt_0 : decode cX5_sectionAt 0 = .ok (.iload_n 1, 1) := by decide +kernel
theorem dX5_sectionAt_1 : decode cX5_sectionAt 1 = .ok (.ifCond .lt 18, 3) := by decide +kernel
theorem dX5_sectionAt_4 : decode cX5_sectionAt 4 = .ok (.iload_n 1, 1) := by decide +kernel
theorem dX5_sectionAt_5 : decode cX5_sectionAt 5 = .ok (.bipush 8, 2) := by decide +kernel
theorem dX5_sectionAt_7 : decode cX5_sectionAt 7 = .ok (.if_icmp .ge 12, 3) := by decide +kernel
theorem dX5_sectionAt_10 : decode cX5_sectionAt 10 = .ok (.aload_n 0, 1) := by decide +kernel
theorem dX5_sectionAt_11 : decode cX5_sectionAt 11 = .ok (.getfield 11, 3) := by decide +kernel
theorem dX5_sectionAt_14 : decode cX5_sectionAt 14 = .ok (.iload_n 1, 1) := by decide +kernel
theorem dX5_sectionAt_15 : decode cX5_sectionAt 15 = .ok (.aaload, 1) := by decide +kernel
theorem dX5_sectionAt_16 : decode cX5_sectionAt 16 = .ok (.goto 4, 3) := by decide +kernel
theorem dX5_sectionAt_19 : decode cX5_sectionAt 19 = .ok (.aconst_null, 1) := by decide +kernel
theorem dX5_sectionAt_20 : decode cX5_sectionAt 20 = .ok (.areturn, 1) := by decide +kernel
theorem dX5_convoyAt_0 : decode cX5_convoyAt 0 = .ok (.iload_n 1, 1) := by decide +kernel
theorem dX5_convoyAt_1 : decode cX5_convoyAt 1 = .ok (.ifCond .lt 20, 3) := by decide +kernel
theorem dX5_convoyAt_4 : decode cX5_convoyAt 4 = .ok (.iload_n 1, 1) := by decide +kernel
theorem dX5_convoyAt_5 : decode cX5_convoyAt 5 = .ok (.aload_n 0, 1) := by decide +kernel
theorem dX5_convoyAt_6 : decode cX5_convoyAt 6 = .ok (.getfield 37, 3) := by decide +kernel
theorem dX5_convoyAt_9 : decode cX5_convoyAt 9 = .ok (.if_icmp .ge 12, 3) := by decide +kernel
theorem dX5_convoyAt_12 : decode cX5_convoyAt 12 = .ok (.aload_n 0, 1) := by decide +kernel
theorem dX5_convoyAt_13 : decode cX5_convoyAt 13 = .ok (.getfield 33, 3) := by decide +kernel
theorem dX5_convoyAt_16 : decode cX5_convoyAt 16 = .ok (.iload_n 1, 1) := by decide +kernel
theorem dX5_convoyAt_17 : decode cX5_convoyAt 17 = .ok (.aaload, 1) := by decide +kernel
theorem dX5_convoyAt_18 : decode cX5_convoyAt 18 = .ok (.goto 4, 3) := by decide +kernel
theorem dX5_convoyAt_21 : decode cX5_convoyAt 21 = .ok (.aconst_null, 1) := by decide +kernel
theorem dX5_convoyAt_22 : decode cX5_convoyAt 22 = .ok (.areturn, 1) := by decide +kernel
theorem dX5_lineOf_0 : decode cX5_lineOf 0 = .ok (.iload_n 1, 1) := by decide +kernel
theorem dX5_lineOf_1 : decode cX5_lineOf 1 = .ok (.ifCond .ne 10, 3) := by decide +kernel
theorem dX5_lineOf_4 : decode cX5_lineOf 4 = .ok (.aload_n 0, 1) := by decide +kernel
theorem dX5_lineOf_5 : decode cX5_lineOf 5 = .ok (.getfield 41, 3) := by decide +kernel
theorem dX5_lineOf_8 : decode cX5_lineOf 8 = .ok (.goto 7, 3) := by decide +kernel
theorem dX5_lineOf_11 : decode cX5_lineOf 11 = .ok (.aload_n 0, 1) := by decide +kernel
theorem dX5_lineOf_12 : decode cX5_lineOf 12 = .ok (.getfield 44, 3) := by decide +kernel
theorem dX5_lineOf_15 : decode cX5_lineOf 15 = .ok (.areturn, 1) := by decide +kernel
theorem dX5_isWay_0 : decode cX5_isWay 0 = .ok (.iload_n 0, 1) := by decide +kernel
theorem dX5_isWay_1 : decode cX5_isWay 1 = .ok (.ifCond .eq 8, 3) := by decide +kernel
theorem dX5_isWay_4 : decode cX5_isWay 4 = .ok (.iload_n 0, 1) := by decide +kernel
theorem dX5_isWay_5 : decode cX5_isWay 5 = .ok (.iconst 1, 1) := by decide +kernel
theorem dX5_isWay_6 : decode cX5_isWay 6 = .ok (.if_icmp .ne 7, 3) := by decide +kernel
theorem dX5_isWay_9 : decode cX5_isWay 9 = .ok (.iconst 1, 1) := by decide +kernel
theorem dX5_isWay_10 : decode cX5_isWay 10 = .ok (.goto 4, 3) := by decide +kernel
theorem dX5_isWay_13 : decode cX5_isWay 13 = .ok (.iconst 0, 1) := by decide +kernel
theorem dX5_isWay_14 : decode cX5_isWay 14 = .ok (.ireturn, 1) := by decide +kernel
theorem dX5_within_0 : decode cX5_within 0 = .ok (.iload_n 0, 1) := by decide +kernel
theorem dX5_within_1 : decode cX5_within 1 = .ok (.iload_n 1, 1) := by decide +kernel
theorem dX5_within_2 : decode cX5_within 2 = .ok (.if_icmp .lt 12, 3) := by decide +kernel
theorem dX5_within_5 : decode cX5_within 5 = .ok (.iload_n 0, 1) := by decide +kernel
theorem dX5_within_6 : decode cX5_within 6 = .ok (.iload_n 2, 1) := by decide +kernel
theorem dX5_within_7 : decode cX5_within 7 = .ok (.if_icmp .gt 7, 3) := by decide +kernel
theorem dX5_within_10 : decode cX5_within 10 = .ok (.iconst 1, 1) := by decide +kernel
theorem dX5_within_11 : decode cX5_within 11 = .ok (.goto 4, 3) := by decide +kernel
theorem dX5_within_14 : decode cX5_within 14 = .ok (.iconst 0, 1) := by decide +kernel
theorem dX5_within_15 : decode cX5_within 15 = .ok (.ireturn, 1) := by decide +kernel
end
section
theorem dX6_init_0 : decode cX6_init 0 = .ok (.aload_n 0, 1) := by decide +kernel
theorem dX6_init_1 : decode cX6_init 1 = .ok (.invokespecial 1, 3) := by decide +kernel
theorem dX6_init_4 : decode cX6_init 4 = .ok (.aload_n 0, 1) := by decide +kernel
theorem dX6_init_5 : decode cX6_init 5 = .ok (.iconst 5, 1) := by decide +kernel
theorem dX6_init_6 : decode cX6_init 6 = .ok (.putfield 7, 3) := by decide +kernel
theorem dX6_init_9 : decode cX6_init 9 = .ok (.aload_n 0, 1) := by decide +kernel
theorem dX6_init_10 : decode cX6_init 10 = .ok (.bipush 8, 2) := by decide +kernel
theorem dX6_init_12 : decode cX6_init 12 = .ok (.newarray .int, 2) := by decide +kernel
theorem dX6_init_14 : decode cX6_init 14 = .ok (.putfield 13, 3) := by decide +kernel
theorem dX6_init_17 : decode cX6_init 17 = .ok (.aload_n 0, 1) := by decide +kernel
theorem dX6_init_18 : decode cX6_init 18 = .ok (.bipush 8, 2) := by decide +kernel
theorem dX6_init_20 : decode cX6_init 20 = .ok (.newarray .int, 2) := by decide +kernel
theorem dX6_init_22 : decode cX6_init 22 = .ok (.putfield 17, 3) := by decide +kernel
theorem dX6_init_25 : decode cX6_init 25 = .ok (.aload_n 0, 1) := by decide +kernel
theorem dX6_init_26 : decode cX6_init 26 = .ok (.bipush 8, 2) := by decide +kernel
theorem dX6_init_28 : decode cX6_init 28 = .ok (.newarray .boolean, 2) := by decide +kernel
theorem dX6_init_30 : decode cX6_init 30 = .ok (.putfield 20, 3) := by decide +kernel
theorem dX6_init_33 : decode cX6_init 33 = .ok (.aload_n 0, 1) := by decide +kernel
theorem dX6_init_34 : decode cX6_init 34 = .ok (.bipush 24, 2) := by decide +kernel
theorem dX6_init_36 : decode cX6_init 36 = .ok (.newarray .int, 2) := by decide +kernel
theorem dX6_init_38 : decode cX6_init 38 = .ok (.putfield 24, 3) := by decide +kernel
theorem dX6_init_41 : decode cX6_init 41 = .ok (.aload_n 0, 1) := by decide +kernel
theorem dX6_init_42 : decode cX6_init 42 = .ok (.bipush 24, 2) := by decide +kernel
theorem dX6_init_44 : decode cX6_init 44 = .ok (.newarray .int, 2) := by decide +kernel
theorem dX6_init_46 : decode cX6_init 46 = .ok (.putfield 27, 3) := by decide +kernel
theorem dX6_init_49 : decode cX6_init 49 = .ok (.aload_n 0, 1) := by decide +kernel
theorem dX6_init_50 : decode cX6_init 50 = .ok (.bipush 30, 2) := by decide +kernel
theorem dX6_init_52 : decode cX6_init 52 = .ok (.newarray .int, 2) := by decide +kernel
theorem dX6_init_54 : decode cX6_init 54 = .ok (.putfield 30, 3) := by decide +kernel
theorem dX6_init_57 : decode cX6_init 57 = .ok (.aload_n 0, 1) := by decide +kernel
theorem dX6_init_58 : decode cX6_init 58 = .ok (.bipush 30, 2) := by decide +kernel
theorem dX6_init_60 : decode cX6_init 60 = .ok (.newarray .int, 2) := by decide +kernel
theorem dX6_init_62 : decode cX6_init 62 = .ok (.putfield 33, 3) := by decide +kernel
theorem dX6_init_65 : decode cX6_init 65 = .ok (.aload_n 0, 1) := by decide +kernel
theorem dX6_init_66 : decode cX6_init 66 = .ok (.bipush 30, 2) := by decide +kernel
theorem dX6_init_68 : decode cX6_init 68 = .ok (.newarray .boolean, 2) := by decide +kernel
theorem dX6_init_70 : decode cX6_init 70 = .ok (.putfield 36, 3) := by decide +kernel
theorem dX6_init_73 : decode cX6_init 73 = .ok (.aload_n 0, 1) := by decide +kernel
theorem dX6_init_74 : decode cX6_init 74 = .ok (.bipush 30, 2) := by decide +kernel
theorem dX6_init_76 : decode cX6_init 76 = .ok (.newarray .int, 2) := by decide +kernel
theorem dX6_init_78 : decode cX6_init 78 = .ok (.putfield 39, 3) := by decide +kernel
theorem dX6_init_81 : decode cX6_init 81 = .ok (.aload_n 0, 1) := by decide +kernel
theorem dX6_init_82 : decode cX6_init 82 = .ok (.bipush 30, 2) := by decide +kernel
theorem dX6_init_84 : decode cX6_init 84 = .ok (.newarray .boolean, 2) := by decide +kernel
theorem dX6_init_86 : decode cX6_init 86 = .ok (.putfield 42, 3) := by decide +kernel
theorem dX6_init_89 : decode cX6_init 89 = .ok (.aload_n 0, 1) := by decide +kernel
theorem dX6_init_90 : decode cX6_init 90 = .ok (.bipush 30, 2) := by decide +kernel
theorem dX6_init_92 : decode cX6_init 92 = .ok (.newarray .int, 2) := by decide +kernel
theorem dX6_init_94 : decode cX6_init 94 = .ok (.putfield 45, 3) := by decide +kernel
theorem dX6_init_97 : decode cX6_init 97 = .ok (.aload_n 0, 1) := by decide +kernel
theorem dX6_init_98 : decode cX6_init 98 = .ok (.bipush 30, 2) := by decide +kernel
theorem dX6_init_100 : decode cX6_init 100 = .ok (.newarray .int, 2) := by decide +kernel
theorem dX6_init_102 : decode cX6_init 102 = .ok (.putfield 48, 3) := by decide +kernel
theorem dX6_init_105 : decode cX6_init 105 = .ok (.aload_n 0, 1) := by decide +kernel
theorem dX6_init_106 : decode cX6_init 106 = .ok (.bipush 30, 2) := by decide +kernel
theorem dX6_init_108 : decode cX6_init 108 = .ok (.newarray .int, 2) := by decide +kernel
theorem dX6_init_110 : decode cX6_init 110 = .ok (.putfield 51, 3) := by decide +kernel
theorem dX6_init_113 : decode cX6_init 113 = .ok (.aload_n 0, 1) := by decide +kernel
theorem dX6_init_114 : decode cX6_init 114 = .ok (.bipush 30, 2) := by decide +kernel
theorem dX6_init_116 : decode cX6_init 116 = .ok (.newarray .boolean, 2) := by decide +kernel
theorem dX6_init_118 : decode cX6_init 118 = .ok (.putfield 54, 3) := by decide +kernel
theorem dX6_init_121 : decode cX6_init 121 = .ok (.aload_n 0, 1) := by decide +kernel
theorem dX6_init_122 : decode cX6_init 122 = .ok (.bipush 30, 2) := by decide +kernel
theorem dX6_init_124 : decode cX6_init 124 = .ok (.newarray .boolean, 2) := by decide +kernel
theorem dX6_init_126 : decode cX6_init 126 = .ok (.putfield 57, 3) := by decide +kernel
theorem dX6_init_129 : decode cX6_init 129 = .ok (.aload_n 0, 1) := by decide +kernel
theorem dX6_init_130 : decode cX6_init 130 = .ok (.bipush 30, 2) := by decide +kernel
theorem dX6_init_132 : decode cX6_init 132 = .ok (.newarray .int, 2) := by decide +kernel
theorem dX6_init_134 : decode cX6_init 134 = .ok (.putfield 60, 3) := by decide +kernel
theorem dX6_init_137 : decode cX6_init 137 = .ok (.aload_n 0, 1) := by decide +kernel
theorem dX6_init_138 : decode cX6_init 138 = .ok (.bipush 30, 2) := by decide +kernel
theorem dX6_init_140 : decode cX6_init 140 = .ok (.newarray .int, 2) := by decide +kernel
theorem dX6_init_142 : decode cX6_init 142 = .ok (.putfield 63, 3) := by decide +kernel
theorem dX6_init_145 : decode cX6_init 145 = .ok (.aload_n 0, 1) := by decide +kernel
theorem dX6_init_146 : decode cX6_init 146 = .ok (.bipush 30, 2) := by decide +kernel
theorem dX6_init_148 : decode cX6_init 148 = .ok (.newarray .int, 2) := by decide +kernel
theorem dX6_init_150 : decode cX6_init 150 = .ok (.putfield 66, 3) := by decide +kernel
theorem dX6_init_153 : decode cX6_init 153 = .ok (.aload_n 0, 1) := by decide +kernel
theorem dX6_init_154 : decode cX6_init 154 = .ok (.bipush 30, 2) := by decide +kernel
theorem dX6_init_156 : decode cX6_init 156 = .ok (.newarray .int, 2) := by decide +kernel
theorem dX6_init_158 : decode cX6_init 158 = .ok (.putfield 69, 3) := by decide +kernel
theorem dX6_init_161 : decode cX6_init 161 = .ok (.aload_n 0, 1) := by decide +kernel
theorem dX6_init_162 : decode cX6_init 162 = .ok (.sipush 210, 3) := by decide +kernel
theorem dX6_init_165 : decode cX6_init 165 = .ok (.newarray .int, 2) := by decide +kernel
theorem dX6_init_167 : decode cX6_init 167 = .ok (.putfield 72, 3) := by decide +kernel
theorem dX6_init_170 : decode cX6_init 170 = .ok (.aload_n 0, 1) := by decide +kernel
theorem dX6_init_171 : decode cX6_init 171 = .ok (.bipush 12, 2) := by decide +kernel
theorem dX6_init_173 : decode cX6_init 173 = .ok (.newarray .int, 2) := by decide +kernel
theorem dX6_init_175 : decode cX6_init 175 = .ok (.putfield 75, 3) := by decide +kernel
theorem dX6_init_178 : decode cX6_init 178 = .ok (.aload_n 0, 1) := by decide +kernel
theorem dX6_init_179 : decode cX6_init 179 = .ok (.bipush 12, 2) := by decide +kernel
theorem dX6_init_181 : decode cX6_init 181 = .ok (.newarray .int, 2) := by decide +kernel
theorem dX6_init_183 : decode cX6_init 183 = .ok (.putfield 78, 3) := by decide +kernel
theorem dX6_init_186 : decode cX6_init 186 = .ok (.aload_n 0, 1) := by decide +kernel
theorem dX6_init_187 : decode cX6_init 187 = .ok (.bipush 12, 2) := by decide +kernel
theorem dX6_init_189 : decode cX6_init 189 = .ok (.newarray .int, 2) := by decide +kernel
theorem dX6_init_191 : decode cX6_init 191 = .ok (.putfield 81, 3) := by decide +kernel
theorem dX6_init_194 : decode cX6_init 194 = .ok (.aload_n 0, 1) := by decide +kernel
theorem dX6_init_195 : decode cX6_init 195 = .ok (.bipush 96, 2) := by decide +kernel
theorem dX6_init_197 : decode cX6_init 197 = .ok (.newarray .int, 2) := by decide +kernel
theorem dX6_init_199 : decode cX6_init 199 = .ok (.putfield 84, 3) := by decide +kernel
theorem dX6_init_202 : decode cX6_init 202 = .ok (.aload_n 0, 1) := by decide +kernel
theorem dX6_init_203 : decode cX6_init 203 = .ok (.bipush 12, 2) := by decide +kernel
theorem dX6_init_205 : decode cX6_init 205 = .ok (.newarray .int, 2) := by decide +kernel
theorem dX6_init_207 : decode cX6_init 207 = .ok (.putfield 87, 3) := by decide +kernel
theorem dX6_init_210 : decode cX6_init 210 = .ok (.aload_n 0, 1) := by decide +kernel
theorem dX6_init_211 : decode cX6_init 211 = .ok (.sipush 360, 3) := by decide +kernel
theorem dX6_init_214 : decode cX6_init 214 = .ok (.newarray .int, 2) := by decide +kernel
theorem dX6_init_216 : decode cX6_init 216 = .ok (.putfield 90, 3) := by decide +kernel
theorem dX6_init_219 : decode cX6_init 219 = .ok (.aload_n 0, 1) := by decide +kernel
theorem dX6_init_220 : decode cX6_init 220 = .ok (.iconst 2, 1) := by decide +kernel
theorem dX6_init_221 : decode cX6_init 221 = .ok (.newarray .int, 2) := by decide +kernel
theorem dX6_init_223 : decode cX6_init 223 = .ok (.putfield 93, 3) := by decide +kernel
theorem dX6_init_226 : decode cX6_init 226 = .ok (.aload_n 0, 1) := by decide +kernel
theorem dX6_init_227 : decode cX6_init 227 = .ok (.bipush 60, 2) := by decide +kernel
theorem dX6_init_229 : decode cX6_init 229 = .ok (.newarray .int, 2) := by decide +kernel
theorem dX6_init_231 : decode cX6_init 231 = .ok (.putfield 96, 3) := by decide +kernel
theorem dX6_init_234 : decode cX6_init 234 = .ok (.aload_n 0, 1) := by decide +kernel
theorem dX6_init_235 : decode cX6_init 235 = .ok (.bipush 16, 2) := by decide +kernel
theorem dX6_init_237 : decode cX6_init 237 = .ok (.newarray .int, 2) := by decide +kernel
theorem dX6_init_239 : decode cX6_init 239 = .ok (.putfield 99, 3) := by decide +kernel
theorem dX6_init_242 : decode cX6_init 242 = .ok (.aload_n 0, 1) := by decide +kernel
theorem dX6_init_243 : decode cX6_init 243 = .ok (.sipush 480, 3) := by decide +kernel
theorem dX6_init_246 : decode cX6_init 246 = .ok (.newarray .int, 2) := by decide +kernel
theorem dX6_init_248 : decode cX6_init 248 = .ok (.putfield 102, 3) := by decide +kernel
theorem dX6_init_251 : decode cX6_init 251 = .ok (.aload_n 0, 1) := by decide +kernel
theorem dX6_init_252 : decode cX6_init 252 = .ok (.bipush 16, 2) := by decide +kernel
theorem dX6_init_254 : decode cX6_init 254 = .ok (.newarray .int, 2) := by decide +kernel
theorem dX6_init_256 : decode cX6_init 256 = .ok (.putfield 105, 3) := by decide +kernel
theorem dX6_init_259 : decode cX6_init 259 = .ok (.iconst 0, 1) := by decide +kernel
theorem dX6_init_260 : decode cX6_init 260 = .ok (.istore_n 1, 1) := by decide +kernel
theorem dX6_init_261 : decode cX6_init 261 = .ok (.iload_n 1, 1) := by decide +kernel
theorem dX6_init_262 : decode cX6_init 262 = .ok (.bipush 8, 2) := by decide +kernel
theorem dX6_init_264 : decode cX6_init 264 = .ok (.if_icmp .ge 49, 3) := by decide +kernel
theorem dX6_init_267 : decode cX6_init 267 = .ok (.aload_n 0, 1) := by decide +kernel
theorem dX6_init_268 : decode cX6_init 268 = .ok (.getfield 13, 3) := by decide +kernel
theorem dX6_init_271 : decode cX6_init 271 = .ok (.iload_n 1, 1) := by decide +kernel
theorem dX6_init_272 : decode cX6_init 272 = .ok (.bipush 20, 2) := by decide +kernel
theorem dX6_init_274 : decode cX6_init 274 = .ok (.iastore, 1) := by decide +kernel
theorem dX6_init_275 : decode cX6_init 275 = .ok (.aload_n 0, 1) := by decide +kernel
theorem dX6_init_276 : decode cX6_init 276 = .ok (.getfield 17, 3) := by decide +kernel
theorem dX6_init_279 : decode cX6_init 279 = .ok (.iload_n 1, 1) := by decide +kernel
theorem dX6_init_280 : decode cX6_init 280 = .ok (.bipush 15, 2) := by decide +kernel
theorem dX6_init_282 : decode cX6_init 282 = .ok (.iastore, 1) := by decide +kernel
theorem dX6_init_283 : decode cX6_init 283 = .ok (.aload_n 0, 1) := by decide +kernel
theorem dX6_init_284 : decode cX6_init 284 = .ok (.getfield 105, 3) := by decide +kernel
theorem dX6_init_287 : decode cX6_init 287 = .ok (.iconst 2, 1) := by decide +kernel
theorem dX6_init_288 : decode cX6_init 288 = .ok (.iload_n 1, 1) := by decide +kernel
theorem dX6_init_289 : decode cX6_init 289 = .ok (.imul, 1) := by decide +kernel
theorem dX6_init_290 : decode cX6_init 290 = .ok (.sipush (-1000), 3) := by decide +kernel
theorem dX6_init_293 : decode cX6_init 293 = .ok (.iastore, 1) := by decide +kernel
theorem dX6_init_294 : decode cX6_init 294 = .ok (.aload_n 0, 1) := by decide +kernel
theorem dX6_init_295 : decode cX6_init 295 = .ok (.getfield 105, 3) := by decide +kernel
theorem dX6_init_298 : decode cX6_init 298 = .ok (.iconst 2, 1) := by decide +kernel
theorem dX6_init_299 : decode cX6_init 299 = .ok (.iload_n 1, 1) := by decide +kernel
theorem dX6_init_300 : decode cX6_init 300 = .ok (.imul, 1) := by decide +kernel
theorem dX6_init_301 : decode cX6_init 301 = .ok (.iconst 1, 1) := by decide +kernel
theorem dX6_init_302 : decode cX6_init 302 = .ok (.iadd, 1) := by decide +kernel
theorem dX6_init_303 : decode cX6_init 303 = .ok (.sipush (-1000), 3) := by decide +kernel
theorem dX6_init_306 : decode cX6_init 306 = .ok (.iastore, 1) := by decide +kernel
theorem dX6_init_307 : decode cX6_init 307 = .ok (.iinc 1 1, 3) := by decide +kernel
theorem dX6_init_310 : decode cX6_init 310 = .ok (.goto (-49), 3) := by decide +kernel
theorem dX6_init_313 : decode cX6_init 313 = .ok (.return_, 1) := by decide +kernel
theorem dX6_isIn_0 : decode cX6_isIn 0 = .ok (.iload_n 0, 1) := by decide +kernel
theorem dX6_isIn_1 : decode cX6_isIn 1 = .ok (.iload_n 1, 1) := by decide +kernel
theorem dX6_isIn_2 : decode cX6_isIn 2 = .ok (.if_icmp .lt 12, 3) := by decide +kernel
theorem dX6_isIn_5 : decode cX6_isIn 5 = .ok (.iload_n 0, 1) := by decide +kernel
theorem dX6_isIn_6 : decode cX6_isIn 6 = .ok (.iload_n 2, 1) := by decide +kernel
theorem dX6_isIn_7 : decode cX6_isIn 7 = .ok (.if_icmp .gt 7, 3) := by decide +kernel
theorem dX6_isIn_10 : decode cX6_isIn 10 = .ok (.iconst 1, 1) := by decide +kernel
theorem dX6_isIn_11 : decode cX6_isIn 11 = .ok (.goto 4, 3) := by decide +kernel
theorem dX6_isIn_14 : decode cX6_isIn 14 = .ok (.iconst 0, 1) := by decide +kernel
theorem dX6_isIn_15 : decode cX6_isIn 15 = .ok (.ireturn, 1) := by decide +kernel
theorem dX6_section_0 : decode cX6_section 0 = .ok (.iload_n 1, 1) := by decide +kernel
theorem dX6_section_1 : decode cX6_section 1 = .ok (.iconst 0, 1) := by decide +kernel
theorem dX6_section_2 : decode cX6_section 2 = .ok (.bipush 7, 2) := by decide +kernel
theorem dX6_section_4 : decode cX6_section 4 = .ok (.invokestatic 108, 3) := by decide +kernel
theorem dX6_section_7 : decode cX6_section 7 = .ok (.ifCond .eq 23, 3) := by decide +kernel
theorem dX6_section_10 : decode cX6_section 10 = .ok (.iload_n 2, 1) := by decide +kernel
theorem dX6_section_11 : decode cX6_section 11 = .ok (.iconst 1, 1) := by decide +kernel
theorem dX6_section_12 : decode cX6_section 12 = .ok (.bipush 60, 2) := by decide +kernel
theorem dX6_section_14 : decode cX6_section 14 = .ok (.invokestatic 108, 3) := by decide +kernel
theorem dX6_section_17 : decode cX6_section 17 = .ok (.ifCond .eq 13, 3) := by decide +kernel
theorem dX6_section_20 : decode cX6_section 20 = .ok (.iload_n 3, 1) := by decide +kernel
theorem dX6_section_21 : decode cX6_section 21 = .ok (.iconst 1, 1) := by decide +kernel
theorem dX6_section_22 : decode cX6_section 22 = .ok (.bipush 40, 2) := by decide +kernel
theorem dX6_section_24 : decode cX6_section 24 = .ok (.invokestatic 108, 3) := by decide +kernel
theorem dX6_section_27 : decode cX6_section 27 = .ok (.ifCond .ne 5, 3) := by decide +kernel
theorem dX6_section_30 : decode cX6_section 30 = .ok (.iconst (-1), 1) := by decide +kernel
theorem dX6_section_31 : decode cX6_section 31 = .ok (.ireturn, 1) := by decide +kernel
theorem dX6_section_32 : decode cX6_section 32 = .ok (.aload_n 0, 1) := by decide +kernel
theorem dX6_section_33 : decode cX6_section 33 = .ok (.getfield 112, 3) := by decide +kernel
theorem dX6_section_36 : decode cX6_section 36 = .ok (.ifCond .le 6, 3) := by decide +kernel
theorem dX6_section_39 : decode cX6_section 39 = .ok (.bipush (-2), 2) := by decide +kernel
theorem dX6_section_41 : decode cX6_section 41 = .ok (.ireturn, 1) := by decide +kernel
theorem dX6_section_42 : decode cX6_section 42 = .ok (.aload_n 0, 1) := by decide +kernel
theorem dX6_section_43 : decode cX6_section 43 = .ok (.getfield 13, 3) := by decide +kernel
theorem dX6_section_46 : decode cX6_section 46 = .ok (.iload_n 1, 1) := by decide +kernel
theorem dX6_section_47 : decode cX6_section 47 = .ok (.iload_n 2, 1) := by decide +kernel
theorem dX6_section_48 : decode cX6_section 48 = .ok (.iastore, 1) := by decide +kernel
theorem dX6_section_49 : decode cX6_section 49 = .ok (.aload_n 0, 1) := by decide +kernel
theorem dX6_section_50 : decode cX6_section 50 = .ok (.getfield 17, 3) := by decide +kernel
theorem dX6_section_53 : decode cX6_section 53 = .ok (.iload_n 1, 1) := by decide +kernel
theorem dX6_section_54 : decode cX6_section 54 = .ok (.iload_n 3, 1) := by decide +kernel
theorem dX6_section_55 : decode cX6_section 55 = .ok (.iastore, 1) := by decide +kernel
theorem dX6_section_56 : decode cX6_section 56 = .ok (.aload_n 0, 1) := by decide +kernel
theorem dX6_section_57 : decode cX6_section 57 = .ok (.getfield 20, 3) := by decide +kernel
theorem dX6_section_60 : decode cX6_section 60 = .ok (.iload_n 1, 1) := by decide +kernel
theorem dX6_section_61 : decode cX6_section 61 = .ok (.iload 4, 2) := by decide +kernel
theorem dX6_section_63 : decode cX6_section 63 = .ok (.bastore, 1) := by decide +kernel
theorem dX6_section_64 : decode cX6_section 64 = .ok (.iconst 0, 1) := by decide +kernel
theorem dX6_section_65 : decode cX6_section 65 = .ok (.ireturn, 1) := by decide +kernel
theorem dX6_tide_0 : decode cX6_tide 0 = .ok (.iload_n 1, 1) := by decide +kernel
theorem dX6_tide_1 : decode cX6_tide 1 = .ok (.iconst 0, 1) := by decide +kernel
theorem dX6_tide_2 : decode cX6_tide 2 = .ok (.bipush 23, 2) := by decide +kernel
theorem dX6_tide_4 : decode cX6_tide 4 = .ok (.invokestatic 108, 3) := by decide +kernel
theorem dX6_tide_7 : decode cX6_tide 7 = .ok (.ifCond .eq 13, 3) := by decide +kernel
theorem dX6_tide_10 : decode cX6_tide 10 = .ok (.iload_n 2, 1) := by decide +kernel
theorem dX6_tide_11 : decode cX6_tide 11 = .ok (.iconst 0, 1) := by decide +kernel
theorem dX6_tide_12 : decode cX6_tide 12 = .ok (.bipush 9, 2) := by decide +kernel
theorem dX6_tide_14 : decode cX6_tide 14 = .ok (.invokestatic 108, 3) := by decide +kernel
theorem dX6_tide_17 : decode cX6_tide 17 = .ok (.ifCond .ne 5, 3) := by decide +kernel
theorem dX6_tide_20 : decode cX6_tide 20 = .ok (.iconst (-1), 1) := by decide +kernel
theorem dX6_tide_21 : decode cX6_tide 21 = .ok (.ireturn, 1) := by decide +kernel
theorem dX6_tide_22 : decode cX6_tide 22 = .ok (.aload_n 0, 1) := by decide +kernel
theorem dX6_tide_23 : decode cX6_tide 23 = .ok (.getfield 24, 3) := by decide +kernel
theorem dX6_tide_26 : decode cX6_tide 26 = .ok (.iload_n 1, 1) := by decide +kernel
theorem dX6_tide_27 : decode cX6_tide 27 = .ok (.iaload, 1) := by decide +kernel
theorem dX6_tide_28 : decode cX6_tide 28 = .ok (.istore_n 3, 1) := by decide +kernel
theorem dX6_tide_29 : decode cX6_tide 29 = .ok (.aload_n 0, 1) := by decide +kernel
theorem dX6_tide_30 : decode cX6_tide 30 = .ok (.getfield 24, 3) := by decide +kernel
theorem dX6_tide_33 : decode cX6_tide 33 = .ok (.iload_n 1, 1) := by decide +kernel
theorem dX6_tide_34 : decode cX6_tide 34 = .ok (.iload_n 2, 1) := by decide +kernel
theorem dX6_tide_35 : decode cX6_tide 35 = .ok (.iastore, 1) := by decide +kernel
theorem dX6_tide_36 : decode cX6_tide 36 = .ok (.iload_n 3, 1) := by decide +kernel
theorem dX6_tide_37 : decode cX6_tide 37 = .ok (.ireturn, 1) := by decide +kernel
theorem dX6_wind_0 : decode cX6_wind 0 = .ok (.iload_n 1, 1) := by decide +kernel
theorem dX6_wind_1 : decode cX6_wind 1 = .ok (.iconst 0, 1) := by decide +kernel
theorem dX6_wind_2 : decode cX6_wind 2 = .ok (.bipush 23, 2) := by decide +kernel
theorem dX6_wind_4 : decode cX6_wind 4 = .ok (.invokestatic 108, 3) := by decide +kernel
theorem dX6_wind_7 : decode cX6_wind 7 = .ok (.ifCond .eq 13, 3) := by decide +kernel
theorem dX6_wind_10 : decode cX6_wind 10 = .ok (.iload_n 2, 1) := by decide +kernel
theorem dX6_wind_11 : decode cX6_wind 11 = .ok (.iconst (-1), 1) := by decide +kernel
theorem dX6_wind_12 : decode cX6_wind 12 = .ok (.bipush 12, 2) := by decide +kernel
theorem dX6_wind_14 : decode cX6_wind 14 = .ok (.invokestatic 108, 3) := by decide +kernel
theorem dX6_wind_17 : decode cX6_wind 17 = .ok (.ifCond .ne 6, 3) := by decide +kernel
theorem dX6_wind_20 : decode cX6_wind 20 = .ok (.bipush (-9), 2) := by decide +kernel
theorem dX6_wind_22 : decode cX6_wind 22 = .ok (.ireturn, 1) := by decide +kernel
theorem dX6_wind_23 : decode cX6_wind 23 = .ok (.aload_n 0, 1) := by decide +kernel
theorem dX6_wind_24 : decode cX6_wind 24 = .ok (.getfield 27, 3) := by decide +kernel
theorem dX6_wind_27 : decode cX6_wind 27 = .ok (.iload_n 1, 1) := by decide +kernel
theorem dX6_wind_28 : decode cX6_wind 28 = .ok (.iaload, 1) := by decide +kernel
theorem dX6_wind_29 : decode cX6_wind 29 = .ok (.istore_n 3, 1) := by decide +kernel
theorem dX6_wind_30 : decode cX6_wind 30 = .ok (.aload_n 0, 1) := by decide +kernel
theorem dX6_wind_31 : decode cX6_wind 31 = .ok (.getfield 27, 3) := by decide +kernel
theorem dX6_wind_34 : decode cX6_wind 34 = .ok (.iload_n 1, 1) := by decide +kernel
theorem dX6_wind_35 : decode cX6_wind 35 = .ok (.iload_n 2, 1) := by decide +kernel
theorem dX6_wind_36 : decode cX6_wind 36 = .ok (.iastore, 1) := by decide +kernel
theorem dX6_wind_37 : decode cX6_wind 37 = .ok (.iload_n 3, 1) := by decide +kernel
theorem dX6_wind_38 : decode cX6_wind 38 = .ok (.ireturn, 1) := by decide +kernel
theorem dX6_rule_0 : decode cX6_rule 0 = .ok (.iload_n 1, 1) := by decide +kernel
theorem dX6_rule_1 : decode cX6_rule 1 = .ok (.iconst 0, 1) := by decide +kernel
theorem dX6_rule_2 : decode cX6_rule 2 = .ok (.iconst 1, 1) := by decide +kernel
theorem dX6_rule_3 : decode cX6_rule 3 = .ok (.invokestatic 108, 3) := by decide +kernel
theorem dX6_rule_6 : decode cX6_rule 6 = .ok (.ifCond .eq 21, 3) := by decide +kernel
theorem dX6_rule_9 : decode cX6_rule 9 = .ok (.iload_n 2, 1) := by decide +kernel
theorem dX6_rule_10 : decode cX6_rule 10 = .ok (.iconst 0, 1) := by decide +kernel
theorem dX6_rule_11 : decode cX6_rule 11 = .ok (.iload_n 1, 1) := by decide +kernel
theorem dX6_rule_12 : decode cX6_rule 12 = .ok (.ifCond .ne 8, 3) := by decide +kernel
theorem dX6_rule_15 : decode cX6_rule 15 = .ok (.bipush 60, 2) := by decide +kernel
theorem dX6_rule_17 : decode cX6_rule 17 = .ok (.goto 4, 3) := by decide +kernel
theorem dX6_rule_20 : decode cX6_rule 20 = .ok (.iconst 1, 1) := by decide +kernel
theorem dX6_rule_21 : decode cX6_rule 21 = .ok (.invokestatic 108, 3) := by decide +kernel
theorem dX6_rule_24 : decode cX6_rule 24 = .ok (.ifCond .ne 5, 3) := by decide +kernel
theorem dX6_rule_27 : decode cX6_rule 27 = .ok (.iconst (-1), 1) := by decide +kernel
theorem dX6_rule_28 : decode cX6_rule 28 = .ok (.ireturn, 1) := by decide +kernel
theorem dX6_rule_29 : decode cX6_rule 29 = .ok (.iload_n 1, 1) := by decide +kernel
theorem dX6_rule_30 : decode cX6_rule 30 = .ok (.ifCond .ne 10, 3) := by decide +kernel
theorem dX6_rule_33 : decode cX6_rule 33 = .ok (.aload_n 0, 1) := by decide +kernel
theorem dX6_rule_34 : decode cX6_rule 34 = .ok (.getfield 7, 3) := by decide +kernel
theorem dX6_rule_37 : decode cX6_rule 37 = .ok (.goto 7, 3) := by decide +kernel
theorem dX6_rule_40 : decode cX6_rule 40 = .ok (.aload_n 0, 1) := by decide +kernel
theorem dX6_rule_41 : decode cX6_rule 41 = .ok (.getfield 115, 3) := by decide +kernel
theorem dX6_rule_44 : decode cX6_rule 44 = .ok (.istore_n 3, 1) := by decide +kernel
theorem dX6_rule_45 : decode cX6_rule 45 = .ok (.aload_n 0, 1) := by decide +kernel
theorem dX6_rule_46 : decode cX6_rule 46 = .ok (.iload_n 1, 1) := by decide +kernel
theorem dX6_rule_47 : decode cX6_rule 47 = .ok (.ifCond .ne 7, 3) := by decide +kernel
theorem dX6_rule_50 : decode cX6_rule 50 = .ok (.iload_n 2, 1) := by decide +kernel
theorem dX6_rule_51 : decode cX6_rule 51 = .ok (.goto 7, 3) := by decide +kernel
theorem dX6_rule_54 : decode cX6_rule 54 = .ok (.aload_n 0, 1) := by decide +kernel
theorem dX6_rule_55 : decode cX6_rule 55 = .ok (.getfield 7, 3) := by decide +kernel
theorem dX6_rule_58 : decode cX6_rule 58 = .ok (.putfield 7, 3) := by decide +kernel
theorem dX6_rule_61 : decode cX6_rule 61 = .ok (.aload_n 0, 1) := by decide +kernel
theorem dX6_rule_62 : decode cX6_rule 62 = .ok (.iload_n 1, 1) := by decide +kernel
theorem dX6_rule_63 : decode cX6_rule 63 = .ok (.iconst 1, 1) := by decide +kernel
theorem dX6_rule_64 : decode cX6_rule 64 = .ok (.if_icmp .ne 7, 3) := by decide +kernel
theorem dX6_rule_67 : decode cX6_rule 67 = .ok (.iload_n 2, 1) := by decide +kernel
theorem dX6_rule_68 : decode cX6_rule 68 = .ok (.goto 7, 3) := by decide +kernel
theorem dX6_rule_71 : decode cX6_rule 71 = .ok (.aload_n 0, 1) := by decide +kernel
theorem dX6_rule_72 : decode cX6_rule 72 = .ok (.getfield 115, 3) := by decide +kernel
theorem dX6_rule_75 : decode cX6_rule 75 = .ok (.putfield 115, 3) := by decide +kernel
theorem dX6_rule_78 : decode cX6_rule 78 = .ok (.iload_n 3, 1) := by decide +kernel
theorem dX6_rule_79 : decode cX6_rule 79 = .ok (.ireturn, 1) := by decide +kernel
theorem dX6_ship_0 : decode cX6_ship 0 = .ok (.iload_n 1, 1) := by decide +kernel
theorem dX6_ship_1 : decode cX6_ship 1 = .ok (.iconst 0, 1) := by decide +kernel
theorem dX6_ship_2 : decode cX6_ship 2 = .ok (.iconst 1, 1) := by decide +kernel
theorem dX6_ship_3 : decode cX6_ship 3 = .ok (.invokestatic 108, 3) := by decide +kernel
theorem dX6_ship_6 : decode cX6_ship 6 = .ok (.ifCond .eq 36, 3) := by decide +kernel
theorem dX6_ship_9 : decode cX6_ship 9 = .ok (.iload_n 2, 1) := by decide +kernel
theorem dX6_ship_10 : decode cX6_ship 10 = .ok (.iconst 0, 1) := by decide +kernel
theorem dX6_ship_11 : decode cX6_ship 11 = .ok (.sipush 9999, 3) := by decide +kernel
theorem dX6_ship_14 : decode cX6_ship 14 = .ok (.invokestatic 108, 3) := by decide +kernel
theorem dX6_ship_17 : decode cX6_ship 17 = .ok (.ifCond .eq 25, 3) := by decide +kernel
theorem dX6_ship_20 : decode cX6_ship 20 = .ok (.iload 4, 2) := by decide +kernel
theorem dX6_ship_22 : decode cX6_ship 22 = .ok (.iconst 1, 1) := by decide +kernel
theorem dX6_ship_23 : decode cX6_ship 23 = .ok (.bipush 45, 2) := by decide +kernel
theorem dX6_ship_25 : decode cX6_ship 25 = .ok (.invokestatic 108, 3) := by decide +kernel
theorem dX6_ship_28 : decode cX6_ship 28 = .ok (.ifCond .eq 14, 3) := by decide +kernel
theorem dX6_ship_31 : decode cX6_ship 31 = .ok (.iload 6, 2) := by decide +kernel
theorem dX6_ship_33 : decode cX6_ship 33 = .ok (.iconst 1, 1) := by decide +kernel
theorem dX6_ship_34 : decode cX6_ship 34 = .ok (.ldc 118, 2) := by decide +kernel
theorem dX6_ship_36 : decode cX6_ship 36 = .ok (.invokestatic 108, 3) := by decide +kernel
theorem dX6_ship_39 : decode cX6_ship 39 = .ok (.ifCond .ne 5, 3) := by decide +kernel
theorem dX6_ship_42 : decode cX6_ship 42 = .ok (.iconst (-1), 1) := by decide +kernel
theorem dX6_ship_43 : decode cX6_ship 43 = .ok (.ireturn, 1) := by decide +kernel
theorem dX6_ship_44 : decode cX6_ship 44 = .ok (.iload_n 2, 1) := by decide +kernel
theorem dX6_ship_45 : decode cX6_ship 45 = .ok (.aload_n 0, 1) := by decide +kernel
theorem dX6_ship_46 : decode cX6_ship 46 = .ok (.getfield 112, 3) := by decide +kernel
theorem dX6_ship_49 : decode cX6_ship 49 = .ok (.if_icmp .ge 6, 3) := by decide +kernel
theorem dX6_ship_52 : decode cX6_ship 52 = .ok (.bipush (-2), 2) := by decide +kernel
theorem dX6_ship_54 : decode cX6_ship 54 = .ok (.ireturn, 1) := by decide +kernel
theorem dX6_ship_55 : decode cX6_ship 55 = .ok (.aload_n 0, 1) := by decide +kernel
theorem dX6_ship_56 : decode cX6_ship 56 = .ok (.getfield 119, 3) := by decide +kernel
theorem dX6_ship_59 : decode cX6_ship 59 = .ok (.bipush 30, 2) := by decide +kernel
theorem dX6_ship_61 : decode cX6_ship 61 = .ok (.if_icmp .ne 6, 3) := by decide +kernel
theorem dX6_ship_64 : decode cX6_ship 64 = .ok (.bipush (-3), 2) := by decide +kernel
theorem dX6_ship_66 : decode cX6_ship 66 = .ok (.ireturn, 1) := by decide +kernel
theorem dX6_ship_67 : decode cX6_ship 67 = .ok (.aload_n 0, 1) := by decide +kernel
theorem dX6_ship_68 : decode cX6_ship 68 = .ok (.getfield 30, 3) := by decide +kernel
theorem dX6_ship_71 : decode cX6_ship 71 = .ok (.aload_n 0, 1) := by decide +kernel
theorem dX6_ship_72 : decode cX6_ship 72 = .ok (.getfield 119, 3) := by decide +kernel
theorem dX6_ship_75 : decode cX6_ship 75 = .ok (.iload_n 1, 1) := by decide +kernel
theorem dX6_ship_76 : decode cX6_ship 76 = .ok (.iastore, 1) := by decide +kernel
theorem dX6_ship_77 : decode cX6_ship 77 = .ok (.aload_n 0, 1) := by decide +kernel
theorem dX6_ship_78 : decode cX6_ship 78 = .ok (.getfield 33, 3) := by decide +kernel
theorem dX6_ship_81 : decode cX6_ship 81 = .ok (.aload_n 0, 1) := by decide +kernel
theorem dX6_ship_82 : decode cX6_ship 82 = .ok (.getfield 119, 3) := by decide +kernel
theorem dX6_ship_85 : decode cX6_ship 85 = .ok (.iload_n 2, 1) := by decide +kernel
theorem dX6_ship_86 : decode cX6_ship 86 = .ok (.iastore, 1) := by decide +kernel
theorem dX6_ship_87 : decode cX6_ship 87 = .ok (.aload_n 0, 1) := by decide +kernel
theorem dX6_ship_88 : decode cX6_ship 88 = .ok (.getfield 36, 3) := by decide +kernel
theorem dX6_ship_91 : decode cX6_ship 91 = .ok (.aload_n 0, 1) := by decide +kernel
theorem dX6_ship_92 : decode cX6_ship 92 = .ok (.getfield 119, 3) := by decide +kernel
theorem dX6_ship_95 : decode cX6_ship 95 = .ok (.iload_n 3, 1) := by decide +kernel
theorem dX6_ship_96 : decode cX6_ship 96 = .ok (.bastore, 1) := by decide +kernel
theorem dX6_ship_97 : decode cX6_ship 97 = .ok (.aload_n 0, 1) := by decide +kernel
theorem dX6_ship_98 : decode cX6_ship 98 = .ok (.getfield 39, 3) := by decide +kernel
theorem dX6_ship_101 : decode cX6_ship 101 = .ok (.aload_n 0, 1) := by decide +kernel
theorem dX6_ship_102 : decode cX6_ship 102 = .ok (.getfield 119, 3) := by decide +kernel
theorem dX6_ship_105 : decode cX6_ship 105 = .ok (.iload 4, 2) := by decide +kernel
theorem dX6_ship_107 : decode cX6_ship 107 = .ok (.iastore, 1) := by decide +kernel
theorem dX6_ship_108 : decode cX6_ship 108 = .ok (.aload_n 0, 1) := by decide +kernel
theorem dX6_ship_109 : decode cX6_ship 109 = .ok (.getfield 42, 3) := by decide +kernel
theorem dX6_ship_112 : decode cX6_ship 112 = .ok (.aload_n 0, 1) := by decide +kernel
theorem dX6_ship_113 : decode cX6_ship 113 = .ok (.getfield 119, 3) := by decide +kernel
theorem dX6_ship_116 : decode cX6_ship 116 = .ok (.iload 5, 2) := by decide +kernel
theorem dX6_ship_118 : decode cX6_ship 118 = .ok (.bastore, 1) := by decide +kernel
theorem dX6_ship_119 : decode cX6_ship 119 = .ok (.aload_n 0, 1) := by decide +kernel
theorem dX6_ship_120 : decode cX6_ship 120 = .ok (.getfield 45, 3) := by decide +kernel
theorem dX6_ship_123 : decode cX6_ship 123 = .ok (.aload_n 0, 1) := by decide +kernel
theorem dX6_ship_124 : decode cX6_ship 124 = .ok (.getfield 119, 3) := by decide +kernel
theorem dX6_ship_127 : decode cX6_ship 127 = .ok (.iload 6, 2) := by decide +kernel
theorem dX6_ship_129 : decode cX6_ship 129 = .ok (.iastore, 1) := by decide +kernel
theorem dX6_ship_130 : decode cX6_ship 130 = .ok (.aload_n 0, 1) := by decide +kernel
theorem dX6_ship_131 : decode cX6_ship 131 = .ok (.getfield 48, 3) := by decide +kernel
theorem dX6_ship_134 : decode cX6_ship 134 = .ok (.aload_n 0, 1) := by decide +kernel
theorem dX6_ship_135 : decode cX6_ship 135 = .ok (.getfield 119, 3) := by decide +kernel
theorem dX6_ship_138 : decode cX6_ship 138 = .ok (.iconst (-1), 1) := by decide +kernel
theorem dX6_ship_139 : decode cX6_ship 139 = .ok (.iastore, 1) := by decide +kernel
theorem dX6_ship_140 : decode cX6_ship 140 = .ok (.aload_n 0, 1) := by decide +kernel
theorem dX6_ship_141 : decode cX6_ship 141 = .ok (.getfield 60, 3) := by decide +kernel
theorem dX6_ship_144 : decode cX6_ship 144 = .ok (.aload_n 0, 1) := by decide +kernel
theorem dX6_ship_145 : decode cX6_ship 145 = .ok (.getfield 119, 3) := by decide +kernel
theorem dX6_ship_148 : decode cX6_ship 148 = .ok (.bipush (-4), 2) := by decide +kernel
theorem dX6_ship_150 : decode cX6_ship 150 = .ok (.iastore, 1) := by decide +kernel
theorem dX6_ship_151 : decode cX6_ship 151 = .ok (.aload_n 0, 1) := by decide +kernel
theorem dX6_ship_152 : decode cX6_ship 152 = .ok (.getfield 63, 3) := by decide +kernel
theorem dX6_ship_155 : decode cX6_ship 155 = .ok (.aload_n 0, 1) := by decide +kernel
theorem dX6_ship_156 : decode cX6_ship 156 = .ok (.getfield 119, 3) := by decide +kernel
theorem dX6_ship_159 : decode cX6_ship 159 = .ok (.bipush (-4), 2) := by decide +kernel
theorem dX6_ship_161 : decode cX6_ship 161 = .ok (.iastore, 1) := by decide +kernel
theorem dX6_ship_162 : decode cX6_ship 162 = .ok (.aload_n 0, 1) := by decide +kernel
theorem dX6_ship_163 : decode cX6_ship 163 = .ok (.getfield 69, 3) := by decide +kernel
theorem dX6_ship_166 : decode cX6_ship 166 = .ok (.aload_n 0, 1) := by decide +kernel
theorem dX6_ship_167 : decode cX6_ship 167 = .ok (.getfield 119, 3) := by decide +kernel
theorem dX6_ship_170 : decode cX6_ship 170 = .ok (.bipush (-4), 2) := by decide +kernel
theorem dX6_ship_172 : decode cX6_ship 172 = .ok (.iastore, 1) := by decide +kernel
theorem dX6_ship_173 : decode cX6_ship 173 = .ok (.aload_n 0, 1) := by decide +kernel
theorem dX6_ship_174 : decode cX6_ship 174 = .ok (.dup, 1) := by decide +kernel
theorem dX6_ship_175 : decode cX6_ship 175 = .ok (.getfield 119, 3) := by decide +kernel
theorem dX6_ship_178 : decode cX6_ship 178 = .ok (.iconst 1, 1) := by decide +kernel
theorem dX6_ship_179 : decode cX6_ship 179 = .ok (.iadd, 1) := by decide +kernel
theorem dX6_ship_180 : decode cX6_ship 180 = .ok (.putfield 119, 3) := by decide +kernel
theorem dX6_ship_183 : decode cX6_ship 183 = .ok (.aload_n 0, 1) := by decide +kernel
theorem dX6_ship_184 : decode cX6_ship 184 = .ok (.getfield 119, 3) := by decide +kernel
theorem dX6_ship_187 : decode cX6_ship 187 = .ok (.iconst 1, 1) := by decide +kernel
theorem dX6_ship_188 : decode cX6_ship 188 = .ok (.isub, 1) := by decide +kernel
theorem dX6_ship_189 : decode cX6_ship 189 = .ok (.ireturn, 1) := by decide +kernel
theorem dX6_convoy_0 : decode cX6_convoy 0 = .ok (.iload_n 1, 1) := by decide +kernel
theorem dX6_convoy_1 : decode cX6_convoy 1 = .ok (.iconst 0, 1) := by decide +kernel
theorem dX6_convoy_2 : decode cX6_convoy 2 = .ok (.iconst 1, 1) := by decide +kernel
theorem dX6_convoy_3 : decode cX6_convoy 3 = .ok (.invokestatic 108, 3) := by decide +kernel
theorem dX6_convoy_6 : decode cX6_convoy 6 = .ok (.ifCond .eq 14, 3) := by decide +kernel
theorem dX6_convoy_9 : decode cX6_convoy 9 = .ok (.iload_n 2, 1) := by decide +kernel
theorem dX6_convoy_10 : decode cX6_convoy 10 = .ok (.iconst 0, 1) := by decide +kernel
theorem dX6_convoy_11 : decode cX6_convoy 11 = .ok (.sipush 9999, 3) := by decide +kernel
theorem dX6_convoy_14 : decode cX6_convoy 14 = .ok (.invokestatic 108, 3) := by decide +kernel
theorem dX6_convoy_17 : decode cX6_convoy 17 = .ok (.ifCond .ne 5, 3) := by decide +kernel
theorem dX6_convoy_20 : decode cX6_convoy 20 = .ok (.iconst (-1), 1) := by decide +kernel
theorem dX6_convoy_21 : decode cX6_convoy 21 = .ok (.ireturn, 1) := by decide +kernel
theorem dX6_convoy_22 : decode cX6_convoy 22 = .ok (.iload_n 2, 1) := by decide +kernel
theorem dX6_convoy_23 : decode cX6_convoy 23 = .ok (.aload_n 0, 1) := by decide +kernel
theorem dX6_convoy_24 : decode cX6_convoy 24 = .ok (.getfield 112, 3) := by decide +kernel
theorem dX6_convoy_27 : decode cX6_convoy 27 = .ok (.if_icmp .gt 6, 3) := by decide +kernel
theorem dX6_convoy_30 : decode cX6_convoy 30 = .ok (.bipush (-2), 2) := by decide +kernel
theorem dX6_convoy_32 : decode cX6_convoy 32 = .ok (.ireturn, 1) := by decide +kernel
theorem dX6_convoy_33 : decode cX6_convoy 33 = .ok (.aload_n 0, 1) := by decide +kernel
theorem dX6_convoy_34 : decode cX6_convoy 34 = .ok (.getfield 122, 3) := by decide +kernel
theorem dX6_convoy_37 : decode cX6_convoy 37 = .ok (.bipush 12, 2) := by decide +kernel
theorem dX6_convoy_39 : decode cX6_convoy 39 = .ok (.if_icmp .ne 6, 3) := by decide +kernel
theorem dX6_convoy_42 : decode cX6_convoy 42 = .ok (.bipush (-3), 2) := by decide +kernel
theorem dX6_convoy_44 : decode cX6_convoy 44 = .ok (.ireturn, 1) := by decide +kernel
theorem dX6_convoy_45 : decode cX6_convoy 45 = .ok (.aload_n 0, 1) := by decide +kernel
theorem dX6_convoy_46 : decode cX6_convoy 46 = .ok (.getfield 75, 3) := by decide +kernel
theorem dX6_convoy_49 : decode cX6_convoy 49 = .ok (.aload_n 0, 1) := by decide +kernel
theorem dX6_convoy_50 : decode cX6_convoy 50 = .ok (.getfield 122, 3) := by decide +kernel
theorem dX6_convoy_53 : decode cX6_convoy 53 = .ok (.iload_n 1, 1) := by decide +kernel
theorem dX6_convoy_54 : decode cX6_convoy 54 = .ok (.iastore, 1) := by decide +kernel
theorem dX6_convoy_55 : decode cX6_convoy 55 = .ok (.aload_n 0, 1) := by decide +kernel
theorem dX6_convoy_56 : decode cX6_convoy 56 = .ok (.getfield 78, 3) := by decide +kernel
theorem dX6_convoy_59 : decode cX6_convoy 59 = .ok (.aload_n 0, 1) := by decide +kernel
theorem dX6_convoy_60 : decode cX6_convoy 60 = .ok (.getfield 122, 3) := by decide +kernel
theorem dX6_convoy_63 : decode cX6_convoy 63 = .ok (.iload_n 2, 1) := by decide +kernel
theorem dX6_convoy_64 : decode cX6_convoy 64 = .ok (.iastore, 1) := by decide +kernel
theorem dX6_convoy_65 : decode cX6_convoy 65 = .ok (.aload_n 0, 1) := by decide +kernel
theorem dX6_convoy_66 : decode cX6_convoy 66 = .ok (.dup, 1) := by decide +kernel
theorem dX6_convoy_67 : decode cX6_convoy 67 = .ok (.getfield 122, 3) := by decide +kernel
theorem dX6_convoy_70 : decode cX6_convoy 70 = .ok (.iconst 1, 1) := by decide +kernel
theorem dX6_convoy_71 : decode cX6_convoy 71 = .ok (.iadd, 1) := by decide +kernel
theorem dX6_convoy_72 : decode cX6_convoy 72 = .ok (.putfield 122, 3) := by decide +kernel
theorem dX6_convoy_75 : decode cX6_convoy 75 = .ok (.aload_n 0, 1) := by decide +kernel
theorem dX6_convoy_76 : decode cX6_convoy 76 = .ok (.getfield 122, 3) := by decide +kernel
theorem dX6_convoy_79 : decode cX6_convoy 79 = .ok (.iconst 1, 1) := by decide +kernel
theorem dX6_convoy_80 : decode cX6_convoy 80 = .ok (.isub, 1) := by decide +kernel
theorem dX6_convoy_81 : decode cX6_convoy 81 = .ok (.ireturn, 1) := by decide +kernel
theorem dX6_book_0 : decode cX6_book 0 = .ok (.iload_n 1, 1) := by decide +kernel
theorem dX6_book_1 : decode cX6_book 1 = .ok (.iconst 0, 1) := by decide +kernel
theorem dX6_book_2 : decode cX6_book 2 = .ok (.aload_n 0, 1) := by decide +kernel
theorem dX6_book_3 : decode cX6_book 3 = .ok (.getfield 122, 3) := by decide +kernel
theorem dX6_book_6 : decode cX6_book 6 = .ok (.iconst 1, 1) := by decide +kernel
theorem dX6_book_7 : decode cX6_book 7 = .ok (.isub, 1) := by decide +kernel
theorem dX6_book_8 : decode cX6_book 8 = .ok (.invokestatic 108, 3) := by decide +kernel
theorem dX6_book_11 : decode cX6_book 11 = .ok (.ifCond .eq 17, 3) := by decide +kernel
theorem dX6_book_14 : decode cX6_book 14 = .ok (.iload_n 2, 1) := by decide +kernel
theorem dX6_book_15 : decode cX6_book 15 = .ok (.iconst 0, 1) := by decide +kernel
theorem dX6_book_16 : decode cX6_book 16 = .ok (.aload_n 0, 1) := by decide +kernel
theorem dX6_book_17 : decode cX6_book 17 = .ok (.getfield 119, 3) := by decide +kernel
theorem dX6_book_20 : decode cX6_book 20 = .ok (.iconst 1, 1) := by decide +kernel
theorem dX6_book_21 : decode cX6_book 21 = .ok (.isub, 1) := by decide +kernel
theorem dX6_book_22 : decode cX6_book 22 = .ok (.invokestatic 108, 3) := by decide +kernel
theorem dX6_book_25 : decode cX6_book 25 = .ok (.ifCond .ne 5, 3) := by decide +kernel
theorem dX6_book_28 : decode cX6_book 28 = .ok (.iconst (-1), 1) := by decide +kernel
theorem dX6_book_29 : decode cX6_book 29 = .ok (.ireturn, 1) := by decide +kernel
theorem dX6_book_30 : decode cX6_book 30 = .ok (.aload_n 0, 1) := by decide +kernel
theorem dX6_book_31 : decode cX6_book 31 = .ok (.getfield 30, 3) := by decide +kernel
theorem dX6_book_34 : decode cX6_book 34 = .ok (.iload_n 2, 1) := by decide +kernel
theorem dX6_book_35 : decode cX6_book 35 = .ok (.iaload, 1) := by decide +kernel
theorem dX6_book_36 : decode cX6_book 36 = .ok (.aload_n 0, 1) := by decide +kernel
theorem dX6_book_37 : decode cX6_book 37 = .ok (.getfield 75, 3) := by decide +kernel
theorem dX6_book_40 : decode cX6_book 40 = .ok (.iload_n 1, 1) := by decide +kernel
theorem dX6_book_41 : decode cX6_book 41 = .ok (.iaload, 1) := by decide +kernel
theorem dX6_book_42 : decode cX6_book 42 = .ok (.if_icmp .ne 49, 3) := by decide +kernel
theorem dX6_book_45 : decode cX6_book 45 = .ok (.aload_n 0, 1) := by decide +kernel
theorem dX6_book_46 : decode cX6_book 46 = .ok (.getfield 69, 3) := by decide +kernel
theorem dX6_book_49 : decode cX6_book 49 = .ok (.iload_n 2, 1) := by decide +kernel
theorem dX6_book_50 : decode cX6_book 50 = .ok (.iaload, 1) := by decide +kernel
theorem dX6_book_51 : decode cX6_book 51 = .ok (.bipush (-4), 2) := by decide +kernel
theorem dX6_book_53 : decode cX6_book 53 = .ok (.if_icmp .ne 38, 3) := by decide +kernel
theorem dX6_book_56 : decode cX6_book 56 = .ok (.aload_n 0, 1) := by decide +kernel
theorem dX6_book_57 : decode cX6_book 57 = .ok (.getfield 57, 3) := by decide +kernel
theorem dX6_book_60 : decode cX6_book 60 = .ok (.iload_n 2, 1) := by decide +kernel
theorem dX6_book_61 : decode cX6_book 61 = .ok (.baload, 1) := by decide +kernel
theorem dX6_book_62 : decode cX6_book 62 = .ok (.ifCond .ne 29, 3) := by decide +kernel
theorem dX6_book_65 : decode cX6_book 65 = .ok (.aload_n 0, 1) := by decide +kernel
theorem dX6_book_66 : decode cX6_book 66 = .ok (.getfield 78, 3) := by decide +kernel
theorem dX6_book_69 : decode cX6_book 69 = .ok (.iload_n 1, 1) := by decide +kernel
theorem dX6_book_70 : decode cX6_book 70 = .ok (.iaload, 1) := by decide +kernel
theorem dX6_book_71 : decode cX6_book 71 = .ok (.aload_n 0, 1) := by decide +kernel
theorem dX6_book_72 : decode cX6_book 72 = .ok (.getfield 112, 3) := by decide +kernel
theorem dX6_book_75 : decode cX6_book 75 = .ok (.if_icmp .le 16, 3) := by decide +kernel
theorem dX6_book_78 : decode cX6_book 78 = .ok (.aload_n 0, 1) := by decide +kernel
theorem dX6_book_79 : decode cX6_book 79 = .ok (.getfield 33, 3) := by decide +kernel
theorem dX6_book_82 : decode cX6_book 82 = .ok (.iload_n 2, 1) := by decide +kernel
theorem dX6_book_83 : decode cX6_book 83 = .ok (.iaload, 1) := by decide +kernel
theorem dX6_book_84 : decode cX6_book 84 = .ok (.aload_n 0, 1) := by decide +kernel
theorem dX6_book_85 : decode cX6_book 85 = .ok (.getfield 112, 3) := by decide +kernel
theorem dX6_book_88 : decode cX6_book 88 = .ok (.if_icmp .ge 6, 3) := by decide +kernel
theorem dX6_book_91 : decode cX6_book 91 = .ok (.bipush (-2), 2) := by decide +kernel
theorem dX6_book_93 : decode cX6_book 93 = .ok (.ireturn, 1) := by decide +kernel
theorem dX6_book_94 : decode cX6_book 94 = .ok (.aload_n 0, 1) := by decide +kernel
theorem dX6_book_95 : decode cX6_book 95 = .ok (.getfield 81, 3) := by decide +kernel
theorem dX6_book_98 : decode cX6_book 98 = .ok (.iload_n 1, 1) := by decide +kernel
theorem dX6_book_99 : decode cX6_book 99 = .ok (.iaload, 1) := by decide +kernel
theorem dX6_book_100 : decode cX6_book 100 = .ok (.bipush 8, 2) := by decide +kernel
theorem dX6_book_102 : decode cX6_book 102 = .ok (.if_icmp .ne 6, 3) := by decide +kernel
theorem dX6_book_105 : decode cX6_book 105 = .ok (.bipush (-3), 2) := by decide +kernel
theorem dX6_book_107 : decode cX6_book 107 = .ok (.ireturn, 1) := by decide +kernel
theorem dX6_book_108 : decode cX6_book 108 = .ok (.aload_n 0, 1) := by decide +kernel
theorem dX6_book_109 : decode cX6_book 109 = .ok (.getfield 84, 3) := by decide +kernel
theorem dX6_book_112 : decode cX6_book 112 = .ok (.bipush 8, 2) := by decide +kernel
theorem dX6_book_114 : decode cX6_book 114 = .ok (.iload_n 1, 1) := by decide +kernel
theorem dX6_book_115 : decode cX6_book 115 = .ok (.imul, 1) := by decide +kernel
theorem dX6_book_116 : decode cX6_book 116 = .ok (.aload_n 0, 1) := by decide +kernel
theorem dX6_book_117 : decode cX6_book 117 = .ok (.getfield 81, 3) := by decide +kernel
theorem dX6_book_120 : decode cX6_book 120 = .ok (.iload_n 1, 1) := by decide +kernel
theorem dX6_book_121 : decode cX6_book 121 = .ok (.iaload, 1) := by decide +kernel
theorem dX6_book_122 : decode cX6_book 122 = .ok (.iadd, 1) := by decide +kernel
theorem dX6_book_123 : decode cX6_book 123 = .ok (.iload_n 2, 1) := by decide +kernel
theorem dX6_book_124 : decode cX6_book 124 = .ok (.iastore, 1) := by decide +kernel
theorem dX6_book_125 : decode cX6_book 125 = .ok (.aload_n 0, 1) := by decide +kernel
theorem dX6_book_126 : decode cX6_book 126 = .ok (.getfield 81, 3) := by decide +kernel
theorem dX6_book_129 : decode cX6_book 129 = .ok (.iload_n 1, 1) := by decide +kernel
theorem dX6_book_130 : decode cX6_book 130 = .ok (.dup2, 1) := by decide +kernel
theorem dX6_book_131 : decode cX6_book 131 = .ok (.iaload, 1) := by decide +kernel
theorem dX6_book_132 : decode cX6_book 132 = .ok (.iconst 1, 1) := by decide +kernel
theorem dX6_book_133 : decode cX6_book 133 = .ok (.iadd, 1) := by decide +kernel
theorem dX6_book_134 : decode cX6_book 134 = .ok (.iastore, 1) := by decide +kernel
theorem dX6_book_135 : decode cX6_book 135 = .ok (.aload_n 0, 1) := by decide +kernel
theorem dX6_book_136 : decode cX6_book 136 = .ok (.getfield 69, 3) := by decide +kernel
theorem dX6_book_139 : decode cX6_book 139 = .ok (.iload_n 2, 1) := by decide +kernel
theorem dX6_book_140 : decode cX6_book 140 = .ok (.iload_n 1, 1) := by decide +kernel
theorem dX6_book_141 : decode cX6_book 141 = .ok (.iastore, 1) := by decide +kernel
theorem dX6_book_142 : decode cX6_book 142 = .ok (.aload_n 0, 1) := by decide +kernel
theorem dX6_book_143 : decode cX6_book 143 = .ok (.getfield 81, 3) := by decide +kernel
theorem dX6_book_146 : decode cX6_book 146 = .ok (.iload_n 1, 1) := by decide +kernel
theorem dX6_book_147 : decode cX6_book 147 = .ok (.iaload, 1) := by decide +kernel
theorem dX6_book_148 : decode cX6_book 148 = .ok (.ireturn, 1) := by decide +kernel
theorem dX6_ground_0 : decode cX6_ground 0 = .ok (.iload_n 1, 1) := by decide +kernel
theorem dX6_ground_1 : decode cX6_ground 1 = .ok (.iconst 0, 1) := by decide +kernel
theorem dX6_ground_2 : decode cX6_ground 2 = .ok (.aload_n 0, 1) := by decide +kernel
theorem dX6_ground_3 : decode cX6_ground 3 = .ok (.getfield 119, 3) := by decide +kernel
theorem dX6_ground_6 : decode cX6_ground 6 = .ok (.iconst 1, 1) := by decide +kernel
theorem dX6_ground_7 : decode cX6_ground 7 = .ok (.isub, 1) := by decide +kernel
theorem dX6_ground_8 : decode cX6_ground 8 = .ok (.invokestatic 108, 3) := by decide +kernel
theorem dX6_ground_11 : decode cX6_ground 11 = .ok (.ifCond .eq 14, 3) := by decide +kernel
theorem dX6_ground_14 : decode cX6_ground 14 = .ok (.iload_n 2, 1) := by decide +kernel
theorem dX6_ground_15 : decode cX6_ground 15 = .ok (.iconst 1, 1) := by decide +kernel
theorem dX6_ground_16 : decode cX6_ground 16 = .ok (.sipush 500, 3) := by decide +kernel
theorem dX6_ground_19 : decode cX6_ground 19 = .ok (.invokestatic 108, 3) := by decide +kernel
theorem dX6_ground_22 : decode cX6_ground 22 = .ok (.ifCond .ne 5, 3) := by decide +kernel
theorem dX6_ground_25 : decode cX6_ground 25 = .ok (.iconst (-1), 1) := by decide +kernel
theorem dX6_ground_26 : decode cX6_ground 26 = .ok (.ireturn, 1) := by decide +kernel
theorem dX6_ground_27 : decode cX6_ground 27 = .ok (.aload_n 0, 1) := by decide +kernel
theorem dX6_ground_28 : decode cX6_ground 28 = .ok (.getfield 48, 3) := by decide +kernel
theorem dX6_ground_31 : decode cX6_ground 31 = .ok (.iload_n 1, 1) := by decide +kernel
theorem dX6_ground_32 : decode cX6_ground 32 = .ok (.iaload, 1) := by decide +kernel
theorem dX6_ground_33 : decode cX6_ground 33 = .ok (.iconst 0, 1) := by decide +kernel
theorem dX6_ground_34 : decode cX6_ground 34 = .ok (.bipush 7, 2) := by decide +kernel
theorem dX6_ground_36 : decode cX6_ground 36 = .ok (.invokestatic 108, 3) := by decide +kernel
theorem dX6_ground_39 : decode cX6_ground 39 = .ok (.ifCond .eq 12, 3) := by decide +kernel
theorem dX6_ground_42 : decode cX6_ground 42 = .ok (.aload_n 0, 1) := by decide +kernel
theorem dX6_ground_43 : decode cX6_ground 43 = .ok (.getfield 66, 3) := by decide +kernel
theorem dX6_ground_46 : decode cX6_ground 46 = .ok (.iload_n 1, 1) := by decide +kernel
theorem dX6_ground_47 : decode cX6_ground 47 = .ok (.iaload, 1) := by decide +kernel
theorem dX6_ground_48 : decode cX6_ground 48 = .ok (.ifCond .le 6, 3) := by decide +kernel
theorem dX6_ground_51 : decode cX6_ground 51 = .ok (.bipush (-2), 2) := by decide +kernel
theorem dX6_ground_53 : decode cX6_ground 53 = .ok (.ireturn, 1) := by decide +kernel
theorem dX6_ground_54 : decode cX6_ground 54 = .ok (.aload_n 0, 1) := by decide +kernel
theorem dX6_ground_55 : decode cX6_ground 55 = .ok (.getfield 66, 3) := by decide +kernel
theorem dX6_ground_58 : decode cX6_ground 58 = .ok (.iload_n 1, 1) := by decide +kernel
theorem dX6_ground_59 : decode cX6_ground 59 = .ok (.iload_n 2, 1) := by decide +kernel
theorem dX6_ground_60 : decode cX6_ground 60 = .ok (.iastore, 1) := by decide +kernel
theorem dX6_ground_61 : decode cX6_ground 61 = .ok (.iconst 1, 1) := by decide +kernel
theorem dX6_ground_62 : decode cX6_ground 62 = .ok (.ireturn, 1) := by decide +kernel
theorem dX6_joins_0 : decode cX6_joins 0 = .ok (.aload_n 0, 1) := by decide +kernel
theorem dX6_joins_1 : decode cX6_joins 1 = .ok (.getfield 30, 3) := by decide +kernel
theorem dX6_joins_4 : decode cX6_joins 4 = .ok (.iload_n 1, 1) := by decide +kernel
theorem dX6_joins_5 : decode cX6_joins 5 = .ok (.iaload, 1) := by decide +kernel
theorem dX6_joins_6 : decode cX6_joins 6 = .ok (.istore_n 2, 1) := by decide +kernel
theorem dX6_joins_7 : decode cX6_joins 7 = .ok (.aload_n 0, 1) := by decide +kernel
theorem dX6_joins_8 : decode cX6_joins 8 = .ok (.getfield 96, 3) := by decide +kernel
theorem dX6_joins_11 : decode cX6_joins 11 = .ok (.bipush 30, 2) := by decide +kernel
theorem dX6_joins_13 : decode cX6_joins 13 = .ok (.iload_n 2, 1) := by decide +kernel
theorem dX6_joins_14 : decode cX6_joins 14 = .ok (.imul, 1) := by decide +kernel
theorem dX6_joins_15 : decode cX6_joins 15 = .ok (.aload_n 0, 1) := by decide +kernel
theorem dX6_joins_16 : decode cX6_joins 16 = .ok (.getfield 93, 3) := by decide +kernel
theorem dX6_joins_19 : decode cX6_joins 19 = .ok (.iload_n 2, 1) := by decide +kernel
theorem dX6_joins_20 : decode cX6_joins 20 = .ok (.iaload, 1) := by decide +kernel
theorem dX6_joins_21 : decode cX6_joins 21 = .ok (.iadd, 1) := by decide +kernel
theorem dX6_joins_22 : decode cX6_joins 22 = .ok (.iload_n 1, 1) := by decide +kernel
theorem dX6_joins_23 : decode cX6_joins 23 = .ok (.iastore, 1) := by decide +kernel
theorem dX6_joins_24 : decode cX6_joins 24 = .ok (.aload_n 0, 1) := by decide +kernel
theorem dX6_joins_25 : decode cX6_joins 25 = .ok (.getfield 93, 3) := by decide +kernel
theorem dX6_joins_28 : decode cX6_joins 28 = .ok (.iload_n 2, 1) := by decide +kernel
theorem dX6_joins_29 : decode cX6_joins 29 = .ok (.dup2, 1) := by decide +kernel
theorem dX6_joins_30 : decode cX6_joins 30 = .ok (.iaload, 1) := by decide +kernel
theorem dX6_joins_31 : decode cX6_joins 31 = .ok (.iconst 1, 1) := by decide +kernel
theorem dX6_joins_32 : decode cX6_joins 32 = .ok (.iadd, 1) := by decide +kernel
theorem dX6_joins_33 : decode cX6_joins 33 = .ok (.iastore, 1) := by decide +kernel
theorem dX6_joins_34 : decode cX6_joins 34 = .ok (.return_, 1) := by decide +kernel
theorem dX6_starts_0 : decode cX6_starts 0 = .ok (.iconst 0, 1) := by decide +kernel
theorem dX6_starts_1 : decode cX6_starts 1 = .ok (.istore_n 1, 1) := by decide +kernel
theorem dX6_starts_2 : decode cX6_starts 2 = .ok (.iload_n 1, 1) := by decide +kernel
theorem dX6_starts_3 : decode cX6_starts 3 = .ok (.aload_n 0, 1) := by decide +kernel
theorem dX6_starts_4 : decode cX6_starts 4 = .ok (.getfield 122, 3) := by decide +kernel
theorem dX6_starts_7 : decode cX6_starts 7 = .ok (.if_icmp .ge 111, 3) := by decide +kernel
theorem dX6_starts_10 : decode cX6_starts 10 = .ok (.aload_n 0, 1) := by decide +kernel
theorem dX6_starts_11 : decode cX6_starts 11 = .ok (.getfield 78, 3) := by decide +kernel
theorem dX6_starts_14 : decode cX6_starts 14 = .ok (.iload_n 1, 1) := by decide +kernel
theorem dX6_starts_15 : decode cX6_starts 15 = .ok (.iaload, 1) := by decide +kernel
theorem dX6_starts_16 : decode cX6_starts 16 = .ok (.aload_n 0, 1) := by decide +kernel
theorem dX6_starts_17 : decode cX6_starts 17 = .ok (.getfield 112, 3) := by decide +kernel
theorem dX6_starts_20 : decode cX6_starts 20 = .ok (.if_icmp .ne 92, 3) := by decide +kernel
theorem dX6_starts_23 : decode cX6_starts 23 = .ok (.iconst 0, 1) := by decide +kernel
theorem dX6_starts_24 : decode cX6_starts 24 = .ok (.istore_n 2, 1) := by decide +kernel
theorem dX6_starts_25 : decode cX6_starts 25 = .ok (.iload_n 2, 1) := by decide +kernel
theorem dX6_starts_26 : decode cX6_starts 26 = .ok (.aload_n 0, 1) := by decide +kernel
theorem dX6_starts_27 : decode cX6_starts 27 = .ok (.getfield 81, 3) := by decide +kernel
theorem dX6_starts_30 : decode cX6_starts 30 = .ok (.iload_n 1, 1) := by decide +kernel
theorem dX6_starts_31 : decode cX6_starts 31 = .ok (.iaload, 1) := by decide +kernel
theorem dX6_starts_32 : decode cX6_starts 32 = .ok (.if_icmp .ge 47, 3) := by decide +kernel
theorem dX6_starts_35 : decode cX6_starts 35 = .ok (.aload_n 0, 1) := by decide +kernel
theorem dX6_starts_36 : decode cX6_starts 36 = .ok (.getfield 33, 3) := by decide +kernel
theorem dX6_starts_39 : decode cX6_starts 39 = .ok (.aload_n 0, 1) := by decide +kernel
theorem dX6_starts_40 : decode cX6_starts 40 = .ok (.getfield 84, 3) := by decide +kernel
theorem dX6_starts_43 : decode cX6_starts 43 = .ok (.bipush 8, 2) := by decide +kernel
theorem dX6_starts_45 : decode cX6_starts 45 = .ok (.iload_n 1, 1) := by decide +kernel
theorem dX6_starts_46 : decode cX6_starts 46 = .ok (.imul, 1) := by decide +kernel
theorem dX6_starts_47 : decode cX6_starts 47 = .ok (.iload_n 2, 1) := by decide +kernel
theorem dX6_starts_48 : decode cX6_starts 48 = .ok (.iadd, 1) := by decide +kernel
theorem dX6_starts_49 : decode cX6_starts 49 = .ok (.iaload, 1) := by decide +kernel
theorem dX6_starts_50 : decode cX6_starts 50 = .ok (.iaload, 1) := by decide +kernel
theorem dX6_starts_51 : decode cX6_starts 51 = .ok (.aload_n 0, 1) := by decide +kernel
theorem dX6_starts_52 : decode cX6_starts 52 = .ok (.getfield 112, 3) := by decide +kernel
theorem dX6_starts_55 : decode cX6_starts 55 = .ok (.if_icmp .gt 18, 3) := by decide +kernel
theorem dX6_starts_58 : decode cX6_starts 58 = .ok (.aload_n 0, 1) := by decide +kernel
theorem dX6_starts_59 : decode cX6_starts 59 = .ok (.aload_n 0, 1) := by decide +kernel
theorem dX6_starts_60 : decode cX6_starts 60 = .ok (.getfield 84, 3) := by decide +kernel
theorem dX6_starts_63 : decode cX6_starts 63 = .ok (.bipush 8, 2) := by decide +kernel
theorem dX6_starts_65 : decode cX6_starts 65 = .ok (.iload_n 1, 1) := by decide +kernel
theorem dX6_starts_66 : decode cX6_starts 66 = .ok (.imul, 1) := by decide +kernel
theorem dX6_starts_67 : decode cX6_starts 67 = .ok (.iload_n 2, 1) := by decide +kernel
theorem dX6_starts_68 : decode cX6_starts 68 = .ok (.iadd, 1) := by decide +kernel
theorem dX6_starts_69 : decode cX6_starts 69 = .ok (.iaload, 1) := by decide +kernel
theorem dX6_starts_70 : decode cX6_starts 70 = .ok (.invokevirtual 125, 3) := by decide +kernel
theorem dX6_starts_73 : decode cX6_starts 73 = .ok (.iinc 2 1, 3) := by decide +kernel
theorem dX6_starts_76 : decode cX6_starts 76 = .ok (.goto (-51), 3) := by decide +kernel
theorem dX6_starts_79 : decode cX6_starts 79 = .ok (.iconst 0, 1) := by decide +kernel
theorem dX6_starts_80 : decode cX6_starts 80 = .ok (.istore_n 2, 1) := by decide +kernel
theorem dX6_starts_81 : decode cX6_starts 81 = .ok (.iload_n 2, 1) := by decide +kernel
theorem dX6_starts_82 : decode cX6_starts 82 = .ok (.aload_n 0, 1) := by decide +kernel
theorem dX6_starts_83 : decode cX6_starts 83 = .ok (.getfield 87, 3) := by decide +kernel
theorem dX6_starts_86 : decode cX6_starts 86 = .ok (.iload_n 1, 1) := by decide +kernel
theorem dX6_starts_87 : decode cX6_starts 87 = .ok (.iaload, 1) := by decide +kernel
theorem dX6_starts_88 : decode cX6_starts 88 = .ok (.if_icmp .ge 24, 3) := by decide +kernel
theorem dX6_starts_91 : decode cX6_starts 91 = .ok (.aload_n 0, 1) := by decide +kernel
theorem dX6_starts_92 : decode cX6_starts 92 = .ok (.aload_n 0, 1) := by decide +kernel
theorem dX6_starts_93 : decode cX6_starts 93 = .ok (.getfield 90, 3) := by decide +kernel
theorem dX6_starts_96 : decode cX6_starts 96 = .ok (.bipush 30, 2) := by decide +kernel
theorem dX6_starts_98 : decode cX6_starts 98 = .ok (.iload_n 1, 1) := by decide +kernel
theorem dX6_starts_99 : decode cX6_starts 99 = .ok (.imul, 1) := by decide +kernel
theorem dX6_starts_100 : decode cX6_starts 100 = .ok (.iload_n 2, 1) := by decide +kernel
theorem dX6_starts_101 : decode cX6_starts 101 = .ok (.iadd, 1) := by decide +kernel
theorem dX6_starts_102 : decode cX6_starts 102 = .ok (.iaload, 1) := by decide +kernel
theorem dX6_starts_103 : decode cX6_starts 103 = .ok (.invokevirtual 125, 3) := by decide +kernel
theorem dX6_starts_106 : decode cX6_starts 106 = .ok (.iinc 2 1, 3) := by decide +kernel
theorem dX6_starts_109 : decode cX6_starts 109 = .ok (.goto (-28), 3) := by decide +kernel
theorem dX6_starts_112 : decode cX6_starts 112 = .ok (.iinc 1 1, 3) := by decide +kernel
theorem dX6_starts_115 : decode cX6_starts 115 = .ok (.goto (-113), 3) := by decide +kernel
theorem dX6_starts_118 : decode cX6_starts 118 = .ok (.return_, 1) := by decide +kernel
theorem dX6_nextConvoy_0 : decode cX6_nextConvoy 0 = .ok (.bipush (-4), 2) := by decide +kernel
theorem dX6_nextConvoy_2 : decode cX6_nextConvoy 2 = .ok (.istore_n 2, 1) := by decide +kernel
theorem dX6_nextConvoy_3 : decode cX6_nextConvoy 3 = .ok (.iconst 0, 1) := by decide +kernel
theorem dX6_nextConvoy_4 : decode cX6_nextConvoy 4 = .ok (.istore_n 3, 1) := by decide +kernel
theorem dX6_nextConvoy_5 : decode cX6_nextConvoy 5 = .ok (.iload_n 3, 1) := by decide +kernel
theorem dX6_nextConvoy_6 : decode cX6_nextConvoy 6 = .ok (.aload_n 0, 1) := by decide +kernel
theorem dX6_nextConvoy_7 : decode cX6_nextConvoy 7 = .ok (.getfield 122, 3) := by decide +kernel
theorem dX6_nextConvoy_10 : decode cX6_nextConvoy 10 = .ok (.if_icmp .ge 69, 3) := by decide +kernel
theorem dX6_nextConvoy_13 : decode cX6_nextConvoy 13 = .ok (.aload_n 0, 1) := by decide +kernel
theorem dX6_nextConvoy_14 : decode cX6_nextConvoy 14 = .ok (.getfield 75, 3) := by decide +kernel
theorem dX6_nextConvoy_17 : decode cX6_nextConvoy 17 = .ok (.iload_n 3, 1) := by decide +kernel
theorem dX6_nextConvoy_18 : decode cX6_nextConvoy 18 = .ok (.iaload, 1) := by decide +kernel
theorem dX6_nextConvoy_19 : decode cX6_nextConvoy 19 = .ok (.iload_n 1, 1) := by decide +kernel
theorem dX6_nextConvoy_20 : decode cX6_nextConvoy 20 = .ok (.if_icmp .ne 20, 3) := by decide +kernel
theorem dX6_nextConvoy_23 : decode cX6_nextConvoy 23 = .ok (.aload_n 0, 1) := by decide +kernel
theorem dX6_nextConvoy_24 : decode cX6_nextConvoy 24 = .ok (.getfield 78, 3) := by decide +kernel
theorem dX6_nextConvoy_27 : decode cX6_nextConvoy 27 = .ok (.iload_n 3, 1) := by decide +kernel
theorem dX6_nextConvoy_28 : decode cX6_nextConvoy 28 = .ok (.iaload, 1) := by decide +kernel
theorem dX6_nextConvoy_29 : decode cX6_nextConvoy 29 = .ok (.aload_n 0, 1) := by decide +kernel
theorem dX6_nextConvoy_30 : decode cX6_nextConvoy 30 = .ok (.getfield 112, 3) := by decide +kernel
theorem dX6_nextConvoy_33 : decode cX6_nextConvoy 33 = .ok (.if_icmp .le 7, 3) := by decide +kernel
theorem dX6_nextConvoy_36 : decode cX6_nextConvoy 36 = .ok (.iconst 1, 1) := by decide +kernel
theorem dX6_nextConvoy_37 : decode cX6_nextConvoy 37 = .ok (.goto 4, 3) := by decide +kernel
theorem dX6_nextConvoy_40 : decode cX6_nextConvoy 40 = .ok (.iconst 0, 1) := by decide +kernel
theorem dX6_nextConvoy_41 : decode cX6_nextConvoy 41 = .ok (.istore 4, 2) := by decide +kernel
theorem dX6_nextConvoy_43 : decode cX6_nextConvoy 43 = .ok (.iload 4, 2) := by decide +kernel
theorem dX6_nextConvoy_45 : decode cX6_nextConvoy 45 = .ok (.ifCond .eq 26, 3) := by decide +kernel
theorem dX6_nextConvoy_48 : decode cX6_nextConvoy 48 = .ok (.iload_n 2, 1) := by decide +kernel
theorem dX6_nextConvoy_49 : decode cX6_nextConvoy 49 = .ok (.ifCond .lt 18, 3) := by decide +kernel
theorem dX6_nextConvoy_52 : decode cX6_nextConvoy 52 = .ok (.aload_n 0, 1) := by decide +kernel
theorem dX6_nextConvoy_53 : decode cX6_nextConvoy 53 = .ok (.getfield 78, 3) := by decide +kernel
theorem dX6_nextConvoy_56 : decode cX6_nextConvoy 56 = .ok (.iload_n 3, 1) := by decide +kernel
theorem dX6_nextConvoy_57 : decode cX6_nextConvoy 57 = .ok (.iaload, 1) := by decide +kernel
theorem dX6_nextConvoy_58 : decode cX6_nextConvoy 58 = .ok (.aload_n 0, 1) := by decide +kernel
theorem dX6_nextConvoy_59 : decode cX6_nextConvoy 59 = .ok (.getfield 78, 3) := by decide +kernel
theorem dX6_nextConvoy_62 : decode cX6_nextConvoy 62 = .ok (.iload_n 2, 1) := by decide +kernel
theorem dX6_nextConvoy_63 : decode cX6_nextConvoy 63 = .ok (.iaload, 1) := by decide +kernel
theorem dX6_nextConvoy_64 : decode cX6_nextConvoy 64 = .ok (.if_icmp .ge 7, 3) := by decide +kernel
theorem dX6_nextConvoy_67 : decode cX6_nextConvoy 67 = .ok (.iload_n 3, 1) := by decide +kernel
theorem dX6_nextConvoy_68 : decode cX6_nextConvoy 68 = .ok (.goto 4, 3) := by decide +kernel
theorem dX6_nextConvoy_71 : decode cX6_nextConvoy 71 = .ok (.iload_n 2, 1) := by decide +kernel
theorem dX6_nextConvoy_72 : decode cX6_nextConvoy 72 = .ok (.istore_n 2, 1) := by decide +kernel
theorem dX6_nextConvoy_73 : decode cX6_nextConvoy 73 = .ok (.iinc 3 1, 3) := by decide +kernel
theorem dX6_nextConvoy_76 : decode cX6_nextConvoy 76 = .ok (.goto (-71), 3) := by decide +kernel
theorem dX6_nextConvoy_79 : decode cX6_nextConvoy 79 = .ok (.iload_n 2, 1) := by decide +kernel
theorem dX6_nextConvoy_80 : decode cX6_nextConvoy 80 = .ok (.ireturn, 1) := by decide +kernel
theorem dX6_lates_0 : decode cX6_lates 0 = .ok (.iconst 0, 1) := by decide +kernel
theorem dX6_lates_1 : decode cX6_lates 1 = .ok (.istore_n 1, 1) := by decide +kernel
theorem dX6_lates_2 : decode cX6_lates 2 = .ok (.iload_n 1, 1) := by decide +kernel
theorem dX6_lates_3 : decode cX6_lates 3 = .ok (.aload_n 0, 1) := by decide +kernel
theorem dX6_lates_4 : decode cX6_lates 4 = .ok (.getfield 119, 3) := by decide +kernel
theorem dX6_lates_7 : decode cX6_lates 7 = .ok (.if_icmp .ge 131, 3) := by decide +kernel
theorem dX6_lates_10 : decode cX6_lates 10 = .ok (.aload_n 0, 1) := by decide +kernel
theorem dX6_lates_11 : decode cX6_lates 11 = .ok (.getfield 33, 3) := by decide +kernel
theorem dX6_lates_14 : decode cX6_lates 14 = .ok (.iload_n 1, 1) := by decide +kernel
theorem dX6_lates_15 : decode cX6_lates 15 = .ok (.iaload, 1) := by decide +kernel
theorem dX6_lates_16 : decode cX6_lates 16 = .ok (.aload_n 0, 1) := by decide +kernel
theorem dX6_lates_17 : decode cX6_lates 17 = .ok (.getfield 112, 3) := by decide +kernel
theorem dX6_lates_20 : decode cX6_lates 20 = .ok (.if_icmp .ne 112, 3) := by decide +kernel
theorem dX6_lates_23 : decode cX6_lates 23 = .ok (.aload_n 0, 1) := by decide +kernel
theorem dX6_lates_24 : decode cX6_lates 24 = .ok (.getfield 69, 3) := by decide +kernel
theorem dX6_lates_27 : decode cX6_lates 27 = .ok (.iload_n 1, 1) := by decide +kernel
theorem dX6_lates_28 : decode cX6_lates 28 = .ok (.iaload, 1) := by decide +kernel
theorem dX6_lates_29 : decode cX6_lates 29 = .ok (.ifCond .lt 103, 3) := by decide +kernel
theorem dX6_lates_32 : decode cX6_lates 32 = .ok (.aload_n 0, 1) := by decide +kernel
theorem dX6_lates_33 : decode cX6_lates 33 = .ok (.getfield 78, 3) := by decide +kernel
theorem dX6_lates_36 : decode cX6_lates 36 = .ok (.aload_n 0, 1) := by decide +kernel
theorem dX6_lates_37 : decode cX6_lates 37 = .ok (.getfield 69, 3) := by decide +kernel
theorem dX6_lates_40 : decode cX6_lates 40 = .ok (.iload_n 1, 1) := by decide +kernel
theorem dX6_lates_41 : decode cX6_lates 41 = .ok (.iaload, 1) := by decide +kernel
theorem dX6_lates_42 : decode cX6_lates 42 = .ok (.iaload, 1) := by decide +kernel
theorem dX6_lates_43 : decode cX6_lates 43 = .ok (.aload_n 0, 1) := by decide +kernel
theorem dX6_lates_44 : decode cX6_lates 44 = .ok (.getfield 112, 3) := by decide +kernel
theorem dX6_lates_47 : decode cX6_lates 47 = .ok (.if_icmp .ge 85, 3) := by decide +kernel
theorem dX6_lates_50 : decode cX6_lates 50 = .ok (.aload_n 0, 1) := by decide +kernel
theorem dX6_lates_51 : decode cX6_lates 51 = .ok (.getfield 54, 3) := by decide +kernel
theorem dX6_lates_54 : decode cX6_lates 54 = .ok (.iload_n 1, 1) := by decide +kernel
theorem dX6_lates_55 : decode cX6_lates 55 = .ok (.iconst 1, 1) := by decide +kernel
theorem dX6_lates_56 : decode cX6_lates 56 = .ok (.bastore, 1) := by decide +kernel
theorem dX6_lates_57 : decode cX6_lates 57 = .ok (.aload_n 0, 1) := by decide +kernel
theorem dX6_lates_58 : decode cX6_lates 58 = .ok (.getfield 115, 3) := by decide +kernel
theorem dX6_lates_61 : decode cX6_lates 61 = .ok (.iconst 1, 1) := by decide +kernel
theorem dX6_lates_62 : decode cX6_lates 62 = .ok (.if_icmp .ne 11, 3) := by decide +kernel
theorem dX6_lates_65 : decode cX6_lates 65 = .ok (.aload_n 0, 1) := by decide +kernel
theorem dX6_lates_66 : decode cX6_lates 66 = .ok (.iload_n 1, 1) := by decide +kernel
theorem dX6_lates_67 : decode cX6_lates 67 = .ok (.invokevirtual 125, 3) := by decide +kernel
theorem dX6_lates_70 : decode cX6_lates 70 = .ok (.goto 62, 3) := by decide +kernel
theorem dX6_lates_73 : decode cX6_lates 73 = .ok (.aload_n 0, 1) := by decide +kernel
theorem dX6_lates_74 : decode cX6_lates 74 = .ok (.aload_n 0, 1) := by decide +kernel
theorem dX6_lates_75 : decode cX6_lates 75 = .ok (.getfield 30, 3) := by decide +kernel
theorem dX6_lates_78 : decode cX6_lates 78 = .ok (.iload_n 1, 1) := by decide +kernel
theorem dX6_lates_79 : decode cX6_lates 79 = .ok (.iaload, 1) := by decide +kernel
theorem dX6_lates_80 : decode cX6_lates 80 = .ok (.invokevirtual 129, 3) := by decide +kernel
theorem dX6_lates_83 : decode cX6_lates 83 = .ok (.istore_n 2, 1) := by decide +kernel
theorem dX6_lates_84 : decode cX6_lates 84 = .ok (.iload_n 2, 1) := by decide +kernel
theorem dX6_lates_85 : decode cX6_lates 85 = .ok (.ifCond .ge 13, 3) := by decide +kernel
theorem dX6_lates_88 : decode cX6_lates 88 = .ok (.aload_n 0, 1) := by decide +kernel
theorem dX6_lates_89 : decode cX6_lates 89 = .ok (.getfield 57, 3) := by decide +kernel
theorem dX6_lates_92 : decode cX6_lates 92 = .ok (.iload_n 1, 1) := by decide +kernel
theorem dX6_lates_93 : decode cX6_lates 93 = .ok (.iconst 1, 1) := by decide +kernel
theorem dX6_lates_94 : decode cX6_lates 94 = .ok (.bastore, 1) := by decide +kernel
theorem dX6_lates_95 : decode cX6_lates 95 = .ok (.goto 37, 3) := by decide +kernel
theorem dX6_lates_98 : decode cX6_lates 98 = .ok (.aload_n 0, 1) := by decide +kernel
theorem dX6_lates_99 : decode cX6_lates 99 = .ok (.getfield 90, 3) := by decide +kernel
theorem dX6_lates_102 : decode cX6_lates 102 = .ok (.bipush 30, 2) := by decide +kernel
theorem dX6_lates_104 : decode cX6_lates 104 = .ok (.iload_n 2, 1) := by decide +kernel
theorem dX6_lates_105 : decode cX6_lates 105 = .ok (.imul, 1) := by decide +kernel
theorem dX6_lates_106 : decode cX6_lates 106 = .ok (.aload_n 0, 1) := by decide +kernel
theorem dX6_lates_107 : decode cX6_lates 107 = .ok (.getfield 87, 3) := by decide +kernel
theorem dX6_lates_110 : decode cX6_lates 110 = .ok (.iload_n 2, 1) := by decide +kernel
theorem dX6_lates_111 : decode cX6_lates 111 = .ok (.iaload, 1) := by decide +kernel
theorem dX6_lates_112 : decode cX6_lates 112 = .ok (.iadd, 1) := by decide +kernel
theorem dX6_lates_113 : decode cX6_lates 113 = .ok (.iload_n 1, 1) := by decide +kernel
theorem dX6_lates_114 : decode cX6_lates 114 = .ok (.iastore, 1) := by decide +kernel
theorem dX6_lates_115 : decode cX6_lates 115 = .ok (.aload_n 0, 1) := by decide +kernel
theorem dX6_lates_116 : decode cX6_lates 116 = .ok (.getfield 87, 3) := by decide +kernel
theorem dX6_lates_119 : decode cX6_lates 119 = .ok (.iload_n 2, 1) := by decide +kernel
theorem dX6_lates_120 : decode cX6_lates 120 = .ok (.dup2, 1) := by decide +kernel
theorem dX6_lates_121 : decode cX6_lates 121 = .ok (.iaload, 1) := by decide +kernel
theorem dX6_lates_122 : decode cX6_lates 122 = .ok (.iconst 1, 1) := by decide +kernel
theorem dX6_lates_123 : decode cX6_lates 123 = .ok (.iadd, 1) := by decide +kernel
theorem dX6_lates_124 : decode cX6_lates 124 = .ok (.iastore, 1) := by decide +kernel
theorem dX6_lates_125 : decode cX6_lates 125 = .ok (.aload_n 0, 1) := by decide +kernel
theorem dX6_lates_126 : decode cX6_lates 126 = .ok (.getfield 69, 3) := by decide +kernel
theorem dX6_lates_129 : decode cX6_lates 129 = .ok (.iload_n 1, 1) := by decide +kernel
theorem dX6_lates_130 : decode cX6_lates 130 = .ok (.iload_n 2, 1) := by decide +kernel
theorem dX6_lates_131 : decode cX6_lates 131 = .ok (.iastore, 1) := by decide +kernel
theorem dX6_lates_132 : decode cX6_lates 132 = .ok (.iinc 1 1, 3) := by decide +kernel
theorem dX6_lates_135 : decode cX6_lates 135 = .ok (.goto (-133), 3) := by decide +kernel
theorem dX6_lates_138 : decode cX6_lates 138 = .ok (.return_, 1) := by decide +kernel
theorem dX6_isAground_0 : decode cX6_isAground 0 = .ok (.iconst 0, 1) := by decide +kernel
theorem dX6_isAground_1 : decode cX6_isAground 1 = .ok (.istore_n 2, 1) := by decide +kernel
theorem dX6_isAground_2 : decode cX6_isAground 2 = .ok (.iconst 0, 1) := by decide +kernel
theorem dX6_isAground_3 : decode cX6_isAground 3 = .ok (.istore_n 3, 1) := by decide +kernel
theorem dX6_isAground_4 : decode cX6_isAground 4 = .ok (.iload_n 3, 1) := by decide +kernel
theorem dX6_isAground_5 : decode cX6_isAground 5 = .ok (.aload_n 0, 1) := by decide +kernel
theorem dX6_isAground_6 : decode cX6_isAground 6 = .ok (.getfield 119, 3) := by decide +kernel
theorem dX6_isAground_9 : decode cX6_isAground 9 = .ok (.if_icmp .ge 38, 3) := by decide +kernel
theorem dX6_isAground_12 : decode cX6_isAground 12 = .ok (.iload_n 2, 1) := by decide +kernel
theorem dX6_isAground_13 : decode cX6_isAground 13 = .ok (.ifCond .ne 22, 3) := by decide +kernel
theorem dX6_isAground_16 : decode cX6_isAground 16 = .ok (.aload_n 0, 1) := by decide +kernel
theorem dX6_isAground_17 : decode cX6_isAground 17 = .ok (.getfield 48, 3) := by decide +kernel
theorem dX6_isAground_20 : decode cX6_isAground 20 = .ok (.iload_n 3, 1) := by decide +kernel
theorem dX6_isAground_21 : decode cX6_isAground 21 = .ok (.iaload, 1) := by decide +kernel
theorem dX6_isAground_22 : decode cX6_isAground 22 = .ok (.iload_n 1, 1) := by decide +kernel
theorem dX6_isAground_23 : decode cX6_isAground 23 = .ok (.if_icmp .ne 16, 3) := by decide +kernel
theorem dX6_isAground_26 : decode cX6_isAground 26 = .ok (.aload_n 0, 1) := by decide +kernel
theorem dX6_isAground_27 : decode cX6_isAground 27 = .ok (.getfield 66, 3) := by decide +kernel
theorem dX6_isAground_30 : decode cX6_isAground 30 = .ok (.iload_n 3, 1) := by decide +kernel
theorem dX6_isAground_31 : decode cX6_isAground 31 = .ok (.iaload, 1) := by decide +kernel
theorem dX6_isAground_32 : decode cX6_isAground 32 = .ok (.ifCond .le 7, 3) := by decide +kernel
theorem dX6_isAground_35 : decode cX6_isAground 35 = .ok (.iconst 1, 1) := by decide +kernel
theorem dX6_isAground_36 : decode cX6_isAground 36 = .ok (.goto 4, 3) := by decide +kernel
theorem dX6_isAground_39 : decode cX6_isAground 39 = .ok (.iconst 0, 1) := by decide +kernel
theorem dX6_isAground_40 : decode cX6_isAground 40 = .ok (.istore_n 2, 1) := by decide +kernel
theorem dX6_isAground_41 : decode cX6_isAground 41 = .ok (.iinc 3 1, 3) := by decide +kernel
theorem dX6_isAground_44 : decode cX6_isAground 44 = .ok (.goto (-40), 3) := by decide +kernel
theorem dX6_isAground_47 : decode cX6_isAground 47 = .ok (.iload_n 2, 1) := by decide +kernel
theorem dX6_isAground_48 : decode cX6_isAground 48 = .ok (.ireturn, 1) := by decide +kernel
theorem dX6_isOncoming_0 : decode cX6_isOncoming 0 = .ok (.iconst 0, 1) := by decide +kernel
theorem dX6_isOncoming_1 : decode cX6_isOncoming 1 = .ok (.istore_n 3, 1) := by decide +kernel
theorem dX6_isOncoming_2 : decode cX6_isOncoming 2 = .ok (.iload_n 1, 1) := by decide +kernel
theorem dX6_isOncoming_3 : decode cX6_isOncoming 3 = .ok (.istore 4, 2) := by decide +kernel
theorem dX6_isOncoming_5 : decode cX6_isOncoming 5 = .ok (.iload 4, 2) := by decide +kernel
theorem dX6_isOncoming_7 : decode cX6_isOncoming 7 = .ok (.ifCond .le 21, 3) := by decide +kernel
theorem dX6_isOncoming_10 : decode cX6_isOncoming 10 = .ok (.aload_n 0, 1) := by decide +kernel
theorem dX6_isOncoming_11 : decode cX6_isOncoming 11 = .ok (.getfield 20, 3) := by decide +kernel
theorem dX6_isOncoming_14 : decode cX6_isOncoming 14 = .ok (.iload 4, 2) := by decide +kernel
theorem dX6_isOncoming_16 : decode cX6_isOncoming 16 = .ok (.iconst 1, 1) := by decide +kernel
theorem dX6_isOncoming_17 : decode cX6_isOncoming 17 = .ok (.isub, 1) := by decide +kernel
theorem dX6_isOncoming_18 : decode cX6_isOncoming 18 = .ok (.baload, 1) := by decide +kernel
theorem dX6_isOncoming_19 : decode cX6_isOncoming 19 = .ok (.ifCond .ne 9, 3) := by decide +kernel
theorem dX6_isOncoming_22 : decode cX6_isOncoming 22 = .ok (.iinc 4 (-1), 3) := by decide +kernel
theorem dX6_isOncoming_25 : decode cX6_isOncoming 25 = .ok (.goto (-20), 3) := by decide +kernel
theorem dX6_isOncoming_28 : decode cX6_isOncoming 28 = .ok (.iload 4, 2) := by decide +kernel
theorem dX6_isOncoming_30 : decode cX6_isOncoming 30 = .ok (.istore 5, 2) := by decide +kernel
theorem dX6_isOncoming_32 : decode cX6_isOncoming 32 = .ok (.iload 5, 2) := by decide +kernel
theorem dX6_isOncoming_34 : decode cX6_isOncoming 34 = .ok (.bipush 8, 2) := by decide +kernel
theorem dX6_isOncoming_36 : decode cX6_isOncoming 36 = .ok (.if_icmp .ge 43, 3) := by decide +kernel
theorem dX6_isOncoming_39 : decode cX6_isOncoming 39 = .ok (.aload_n 0, 1) := by decide +kernel
theorem dX6_isOncoming_40 : decode cX6_isOncoming 40 = .ok (.getfield 20, 3) := by decide +kernel
theorem dX6_isOncoming_43 : decode cX6_isOncoming 43 = .ok (.iload 5, 2) := by decide +kernel
theorem dX6_isOncoming_45 : decode cX6_isOncoming 45 = .ok (.baload, 1) := by decide +kernel
theorem dX6_isOncoming_46 : decode cX6_isOncoming 46 = .ok (.ifCond .ne 33, 3) := by decide +kernel
theorem dX6_isOncoming_49 : decode cX6_isOncoming 49 = .ok (.iload_n 3, 1) := by decide +kernel
theorem dX6_isOncoming_50 : decode cX6_isOncoming 50 = .ok (.ifCond .ne 17, 3) := by decide +kernel
theorem dX6_isOncoming_53 : decode cX6_isOncoming 53 = .ok (.aload_n 0, 1) := by decide +kernel
theorem dX6_isOncoming_54 : decode cX6_isOncoming 54 = .ok (.getfield 99, 3) := by decide +kernel
theorem dX6_isOncoming_57 : decode cX6_isOncoming 57 = .ok (.iconst 2, 1) := by decide +kernel
theorem dX6_isOncoming_58 : decode cX6_isOncoming 58 = .ok (.iload 5, 2) := by decide +kernel
theorem dX6_isOncoming_60 : decode cX6_isOncoming 60 = .ok (.imul, 1) := by decide +kernel
theorem dX6_isOncoming_61 : decode cX6_isOncoming 61 = .ok (.iload_n 2, 1) := by decide +kernel
theorem dX6_isOncoming_62 : decode cX6_isOncoming 62 = .ok (.iadd, 1) := by decide +kernel
theorem dX6_isOncoming_63 : decode cX6_isOncoming 63 = .ok (.iaload, 1) := by decide +kernel
theorem dX6_isOncoming_64 : decode cX6_isOncoming 64 = .ok (.ifCond .le 7, 3) := by decide +kernel
theorem dX6_isOncoming_67 : decode cX6_isOncoming 67 = .ok (.iconst 1, 1) := by decide +kernel
theorem dX6_isOncoming_68 : decode cX6_isOncoming 68 = .ok (.goto 4, 3) := by decide +kernel
theorem dX6_isOncoming_71 : decode cX6_isOncoming 71 = .ok (.iconst 0, 1) := by decide +kernel
theorem dX6_isOncoming_72 : decode cX6_isOncoming 72 = .ok (.istore_n 3, 1) := by decide +kernel
theorem dX6_isOncoming_73 : decode cX6_isOncoming 73 = .ok (.iinc 5 1, 3) := by decide +kernel
theorem dX6_isOncoming_76 : decode cX6_isOncoming 76 = .ok (.goto (-44), 3) := by decide +kernel
theorem dX6_isOncoming_79 : decode cX6_isOncoming 79 = .ok (.iload_n 3, 1) := by decide +kernel
theorem dX6_isOncoming_80 : decode cX6_isOncoming 80 = .ok (.ireturn, 1) := by decide +kernel
theorem dX6_cause_0 : decode cX6_cause 0 = .ok (.iconst 2, 1) := by decide +kernel
theorem dX6_cause_1 : decode cX6_cause 1 = .ok (.iload_n 2, 1) := by decide +kernel
theorem dX6_cause_2 : decode cX6_cause 2 = .ok (.imul, 1) := by decide +kernel
theorem dX6_cause_3 : decode cX6_cause 3 = .ok (.aload_n 0, 1) := by decide +kernel
theorem dX6_cause_4 : decode cX6_cause 4 = .ok (.getfield 30, 3) := by decide +kernel
theorem dX6_cause_7 : decode cX6_cause 7 = .ok (.iload_n 1, 1) := by decide +kernel
theorem dX6_cause_8 : decode cX6_cause 8 = .ok (.iaload, 1) := by decide +kernel
theorem dX6_cause_9 : decode cX6_cause 9 = .ok (.iadd, 1) := by decide +kernel
theorem dX6_cause_10 : decode cX6_cause 10 = .ok (.istore_n 3, 1) := by decide +kernel
theorem dX6_cause_11 : decode cX6_cause 11 = .ok (.aload_n 0, 1) := by decide +kernel
theorem dX6_cause_12 : decode cX6_cause 12 = .ok (.getfield 112, 3) := by decide +kernel
theorem dX6_cause_15 : decode cX6_cause 15 = .ok (.bipush 60, 2) := by decide +kernel
theorem dX6_cause_17 : decode cX6_cause 17 = .ok (.idiv, 1) := by decide +kernel
theorem dX6_cause_18 : decode cX6_cause 18 = .ok (.bipush 24, 2) := by decide +kernel
theorem dX6_cause_20 : decode cX6_cause 20 = .ok (.irem, 1) := by decide +kernel
theorem dX6_cause_21 : decode cX6_cause 21 = .ok (.istore 4, 2) := by decide +kernel
theorem dX6_cause_23 : decode cX6_cause 23 = .ok (.aload_n 0, 1) := by decide +kernel
theorem dX6_cause_24 : decode cX6_cause 24 = .ok (.getfield 17, 3) := by decide +kernel
theorem dX6_cause_27 : decode cX6_cause 27 = .ok (.iload_n 2, 1) := by decide +kernel
theorem dX6_cause_28 : decode cX6_cause 28 = .ok (.iaload, 1) := by decide +kernel
theorem dX6_cause_29 : decode cX6_cause 29 = .ok (.iload_n 2, 1) := by decide +kernel
theorem dX6_cause_30 : decode cX6_cause 30 = .ok (.ifCond .eq 9, 3) := by decide +kernel
theorem dX6_cause_33 : decode cX6_cause 33 = .ok (.iload_n 2, 1) := by decide +kernel
theorem dX6_cause_34 : decode cX6_cause 34 = .ok (.bipush 7, 2) := by decide +kernel
theorem dX6_cause_36 : decode cX6_cause 36 = .ok (.if_icmp .ne 13, 3) := by decide +kernel
theorem dX6_cause_39 : decode cX6_cause 39 = .ok (.aload_n 0, 1) := by decide +kernel
theorem dX6_cause_40 : decode cX6_cause 40 = .ok (.getfield 24, 3) := by decide +kernel
theorem dX6_cause_43 : decode cX6_cause 43 = .ok (.iload 4, 2) := by decide +kernel
theorem dX6_cause_45 : decode cX6_cause 45 = .ok (.iaload, 1) := by decide +kernel
theorem dX6_cause_46 : decode cX6_cause 46 = .ok (.goto 4, 3) := by decide +kernel
theorem dX6_cause_49 : decode cX6_cause 49 = .ok (.iconst 0, 1) := by decide +kernel
theorem dX6_cause_50 : decode cX6_cause 50 = .ok (.iadd, 1) := by decide +kernel
theorem dX6_cause_51 : decode cX6_cause 51 = .ok (.istore 5, 2) := by decide +kernel
theorem dX6_cause_53 : decode cX6_cause 53 = .ok (.aload_n 0, 1) := by decide +kernel
theorem dX6_cause_54 : decode cX6_cause 54 = .ok (.iload_n 2, 1) := by decide +kernel
theorem dX6_cause_55 : decode cX6_cause 55 = .ok (.invokevirtual 133, 3) := by decide +kernel
theorem dX6_cause_58 : decode cX6_cause 58 = .ok (.ifCond .eq 5, 3) := by decide +kernel
theorem dX6_cause_61 : decode cX6_cause 61 = .ok (.iconst 0, 1) := by decide +kernel
theorem dX6_cause_62 : decode cX6_cause 62 = .ok (.ireturn, 1) := by decide +kernel
theorem dX6_cause_63 : decode cX6_cause 63 = .ok (.aload_n 0, 1) := by decide +kernel
theorem dX6_cause_64 : decode cX6_cause 64 = .ok (.getfield 20, 3) := by decide +kernel
theorem dX6_cause_67 : decode cX6_cause 67 = .ok (.iload_n 2, 1) := by decide +kernel
theorem dX6_cause_68 : decode cX6_cause 68 = .ok (.baload, 1) := by decide +kernel
theorem dX6_cause_69 : decode cX6_cause 69 = .ok (.ifCond .ne 21, 3) := by decide +kernel
theorem dX6_cause_72 : decode cX6_cause 72 = .ok (.aload_n 0, 1) := by decide +kernel
theorem dX6_cause_73 : decode cX6_cause 73 = .ok (.iload_n 2, 1) := by decide +kernel
theorem dX6_cause_74 : decode cX6_cause 74 = .ok (.iconst 1, 1) := by decide +kernel
theorem dX6_cause_75 : decode cX6_cause 75 = .ok (.aload_n 0, 1) := by decide +kernel
theorem dX6_cause_76 : decode cX6_cause 76 = .ok (.getfield 30, 3) := by decide +kernel
theorem dX6_cause_79 : decode cX6_cause 79 = .ok (.iload_n 1, 1) := by decide +kernel
theorem dX6_cause_80 : decode cX6_cause 80 = .ok (.iaload, 1) := by decide +kernel
theorem dX6_cause_81 : decode cX6_cause 81 = .ok (.isub, 1) := by decide +kernel
theorem dX6_cause_82 : decode cX6_cause 82 = .ok (.invokevirtual 137, 3) := by decide +kernel
theorem dX6_cause_85 : decode cX6_cause 85 = .ok (.ifCond .eq 5, 3) := by decide +kernel
theorem dX6_cause_88 : decode cX6_cause 88 = .ok (.iconst 1, 1) := by decide +kernel
theorem dX6_cause_89 : decode cX6_cause 89 = .ok (.ireturn, 1) := by decide +kernel
theorem dX6_cause_90 : decode cX6_cause 90 = .ok (.aload_n 0, 1) := by decide +kernel
theorem dX6_cause_91 : decode cX6_cause 91 = .ok (.getfield 99, 3) := by decide +kernel
theorem dX6_cause_94 : decode cX6_cause 94 = .ok (.iload_n 3, 1) := by decide +kernel
theorem dX6_cause_95 : decode cX6_cause 95 = .ok (.iaload, 1) := by decide +kernel
theorem dX6_cause_96 : decode cX6_cause 96 = .ok (.iconst 3, 1) := by decide +kernel
theorem dX6_cause_97 : decode cX6_cause 97 = .ok (.if_icmp .ne 5, 3) := by decide +kernel
theorem dX6_cause_100 : decode cX6_cause 100 = .ok (.iconst 2, 1) := by decide +kernel
theorem dX6_cause_101 : decode cX6_cause 101 = .ok (.ireturn, 1) := by decide +kernel
theorem dX6_cause_102 : decode cX6_cause 102 = .ok (.aload_n 0, 1) := by decide +kernel
theorem dX6_cause_103 : decode cX6_cause 103 = .ok (.getfield 112, 3) := by decide +kernel
theorem dX6_cause_106 : decode cX6_cause 106 = .ok (.aload_n 0, 1) := by decide +kernel
theorem dX6_cause_107 : decode cX6_cause 107 = .ok (.getfield 105, 3) := by decide +kernel
theorem dX6_cause_110 : decode cX6_cause 110 = .ok (.iload_n 3, 1) := by decide +kernel
theorem dX6_cause_111 : decode cX6_cause 111 = .ok (.iaload, 1) := by decide +kernel
theorem dX6_cause_112 : decode cX6_cause 112 = .ok (.isub, 1) := by decide +kernel
theorem dX6_cause_113 : decode cX6_cause 113 = .ok (.aload_n 0, 1) := by decide +kernel
theorem dX6_cause_114 : decode cX6_cause 114 = .ok (.getfield 7, 3) := by decide +kernel
theorem dX6_cause_117 : decode cX6_cause 117 = .ok (.if_icmp .ge 5, 3) := by decide +kernel
theorem dX6_cause_120 : decode cX6_cause 120 = .ok (.iconst 3, 1) := by decide +kernel
theorem dX6_cause_121 : decode cX6_cause 121 = .ok (.ireturn, 1) := by decide +kernel
theorem dX6_cause_122 : decode cX6_cause 122 = .ok (.aload_n 0, 1) := by decide +kernel
theorem dX6_cause_123 : decode cX6_cause 123 = .ok (.getfield 39, 3) := by decide +kernel
theorem dX6_cause_126 : decode cX6_cause 126 = .ok (.iload_n 1, 1) := by decide +kernel
theorem dX6_cause_127 : decode cX6_cause 127 = .ok (.iaload, 1) := by decide +kernel
theorem dX6_cause_128 : decode cX6_cause 128 = .ok (.iload 5, 2) := by decide +kernel
theorem dX6_cause_130 : decode cX6_cause 130 = .ok (.if_icmp .le 5, 3) := by decide +kernel
theorem dX6_cause_133 : decode cX6_cause 133 = .ok (.iconst 4, 1) := by decide +kernel
theorem dX6_cause_134 : decode cX6_cause 134 = .ok (.ireturn, 1) := by decide +kernel
theorem dX6_cause_135 : decode cX6_cause 135 = .ok (.aload_n 0, 1) := by decide +kernel
theorem dX6_cause_136 : decode cX6_cause 136 = .ok (.getfield 36, 3) := by decide +kernel
theorem dX6_cause_139 : decode cX6_cause 139 = .ok (.iload_n 1, 1) := by decide +kernel
theorem dX6_cause_140 : decode cX6_cause 140 = .ok (.baload, 1) := by decide +kernel
theorem dX6_cause_141 : decode cX6_cause 141 = .ok (.ifCond .eq 38, 3) := by decide +kernel
theorem dX6_cause_144 : decode cX6_cause 144 = .ok (.aload_n 0, 1) := by decide +kernel
theorem dX6_cause_145 : decode cX6_cause 145 = .ok (.getfield 20, 3) := by decide +kernel
theorem dX6_cause_148 : decode cX6_cause 148 = .ok (.iload_n 2, 1) := by decide +kernel
theorem dX6_cause_149 : decode cX6_cause 149 = .ok (.baload, 1) := by decide +kernel
theorem dX6_cause_150 : decode cX6_cause 150 = .ok (.ifCond .ne 29, 3) := by decide +kernel
theorem dX6_cause_153 : decode cX6_cause 153 = .ok (.aload_n 0, 1) := by decide +kernel
theorem dX6_cause_154 : decode cX6_cause 154 = .ok (.getfield 27, 3) := by decide +kernel
theorem dX6_cause_157 : decode cX6_cause 157 = .ok (.iload 4, 2) := by decide +kernel
theorem dX6_cause_159 : decode cX6_cause 159 = .ok (.iaload, 1) := by decide +kernel
theorem dX6_cause_160 : decode cX6_cause 160 = .ok (.ifCond .lt 15, 3) := by decide +kernel
theorem dX6_cause_163 : decode cX6_cause 163 = .ok (.aload_n 0, 1) := by decide +kernel
theorem dX6_cause_164 : decode cX6_cause 164 = .ok (.getfield 27, 3) := by decide +kernel
theorem dX6_cause_167 : decode cX6_cause 167 = .ok (.iload 4, 2) := by decide +kernel
theorem dX6_cause_169 : decode cX6_cause 169 = .ok (.iaload, 1) := by decide +kernel
theorem dX6_cause_170 : decode cX6_cause 170 = .ok (.bipush 6, 2) := by decide +kernel
theorem dX6_cause_172 : decode cX6_cause 172 = .ok (.if_icmp .le 7, 3) := by decide +kernel
theorem dX6_cause_175 : decode cX6_cause 175 = .ok (.iconst 5, 1) := by decide +kernel
theorem dX6_cause_176 : decode cX6_cause 176 = .ok (.goto 4, 3) := by decide +kernel
theorem dX6_cause_179 : decode cX6_cause 179 = .ok (.iconst (-1), 1) := by decide +kernel
theorem dX6_cause_180 : decode cX6_cause 180 = .ok (.ireturn, 1) := by decide +kernel
theorem dX6_enters_0 : decode cX6_enters 0 = .ok (.iconst 2, 1) := by decide +kernel
theorem dX6_enters_1 : decode cX6_enters 1 = .ok (.iload_n 2, 1) := by decide +kernel
theorem dX6_enters_2 : decode cX6_enters 2 = .ok (.imul, 1) := by decide +kernel
theorem dX6_enters_3 : decode cX6_enters 3 = .ok (.aload_n 0, 1) := by decide +kernel
theorem dX6_enters_4 : decode cX6_enters 4 = .ok (.getfield 30, 3) := by decide +kernel
theorem dX6_enters_7 : decode cX6_enters 7 = .ok (.iload_n 1, 1) := by decide +kernel
theorem dX6_enters_8 : decode cX6_enters 8 = .ok (.iaload, 1) := by decide +kernel
theorem dX6_enters_9 : decode cX6_enters 9 = .ok (.iadd, 1) := by decide +kernel
theorem dX6_enters_10 : decode cX6_enters 10 = .ok (.istore_n 3, 1) := by decide +kernel
theorem dX6_enters_11 : decode cX6_enters 11 = .ok (.aload_n 0, 1) := by decide +kernel
theorem dX6_enters_12 : decode cX6_enters 12 = .ok (.getfield 102, 3) := by decide +kernel
theorem dX6_enters_15 : decode cX6_enters 15 = .ok (.bipush 30, 2) := by decide +kernel
theorem dX6_enters_17 : decode cX6_enters 17 = .ok (.iload_n 3, 1) := by decide +kernel
theorem dX6_enters_18 : decode cX6_enters 18 = .ok (.imul, 1) := by decide +kernel
theorem dX6_enters_19 : decode cX6_enters 19 = .ok (.aload_n 0, 1) := by decide +kernel
theorem dX6_enters_20 : decode cX6_enters 20 = .ok (.getfield 99, 3) := by decide +kernel
theorem dX6_enters_23 : decode cX6_enters 23 = .ok (.iload_n 3, 1) := by decide +kernel
theorem dX6_enters_24 : decode cX6_enters 24 = .ok (.iaload, 1) := by decide +kernel
theorem dX6_enters_25 : decode cX6_enters 25 = .ok (.iadd, 1) := by decide +kernel
theorem dX6_enters_26 : decode cX6_enters 26 = .ok (.iload_n 1, 1) := by decide +kernel
theorem dX6_enters_27 : decode cX6_enters 27 = .ok (.iastore, 1) := by decide +kernel
theorem dX6_enters_28 : decode cX6_enters 28 = .ok (.aload_n 0, 1) := by decide +kernel
theorem dX6_enters_29 : decode cX6_enters 29 = .ok (.getfield 99, 3) := by decide +kernel
theorem dX6_enters_32 : decode cX6_enters 32 = .ok (.iload_n 3, 1) := by decide +kernel
theorem dX6_enters_33 : decode cX6_enters 33 = .ok (.dup2, 1) := by decide +kernel
theorem dX6_enters_34 : decode cX6_enters 34 = .ok (.iaload, 1) := by decide +kernel
theorem dX6_enters_35 : decode cX6_enters 35 = .ok (.iconst 1, 1) := by decide +kernel
theorem dX6_enters_36 : decode cX6_enters 36 = .ok (.iadd, 1) := by decide +kernel
theorem dX6_enters_37 : decode cX6_enters 37 = .ok (.iastore, 1) := by decide +kernel
theorem dX6_enters_38 : decode cX6_enters 38 = .ok (.aload_n 0, 1) := by decide +kernel
theorem dX6_enters_39 : decode cX6_enters 39 = .ok (.getfield 105, 3) := by decide +kernel
theorem dX6_enters_42 : decode cX6_enters 42 = .ok (.iload_n 3, 1) := by decide +kernel
theorem dX6_enters_43 : decode cX6_enters 43 = .ok (.aload_n 0, 1) := by decide +kernel
theorem dX6_enters_44 : decode cX6_enters 44 = .ok (.getfield 112, 3) := by decide +kernel
theorem dX6_enters_47 : decode cX6_enters 47 = .ok (.iastore, 1) := by decide +kernel
theorem dX6_enters_48 : decode cX6_enters 48 = .ok (.aload_n 0, 1) := by decide +kernel
theorem dX6_enters_49 : decode cX6_enters 49 = .ok (.getfield 48, 3) := by decide +kernel
theorem dX6_enters_52 : decode cX6_enters 52 = .ok (.iload_n 1, 1) := by decide +kernel
theorem dX6_enters_53 : decode cX6_enters 53 = .ok (.iload_n 2, 1) := by decide +kernel
theorem dX6_enters_54 : decode cX6_enters 54 = .ok (.iastore, 1) := by decide +kernel
theorem dX6_enters_55 : decode cX6_enters 55 = .ok (.aload_n 0, 1) := by decide +kernel
theorem dX6_enters_56 : decode cX6_enters 56 = .ok (.getfield 51, 3) := by decide +kernel
theorem dX6_enters_59 : decode cX6_enters 59 = .ok (.iload_n 1, 1) := by decide +kernel
theorem dX6_enters_60 : decode cX6_enters 60 = .ok (.aload_n 0, 1) := by decide +kernel
theorem dX6_enters_61 : decode cX6_enters 61 = .ok (.getfield 42, 3) := by decide +kernel
theorem dX6_enters_64 : decode cX6_enters 64 = .ok (.iload_n 1, 1) := by decide +kernel
theorem dX6_enters_65 : decode cX6_enters 65 = .ok (.baload, 1) := by decide +kernel
theorem dX6_enters_66 : decode cX6_enters 66 = .ok (.ifCond .eq 14, 3) := by decide +kernel
theorem dX6_enters_69 : decode cX6_enters 69 = .ok (.iconst 2, 1) := by decide +kernel
theorem dX6_enters_70 : decode cX6_enters 70 = .ok (.aload_n 0, 1) := by decide +kernel
theorem dX6_enters_71 : decode cX6_enters 71 = .ok (.getfield 13, 3) := by decide +kernel
theorem dX6_enters_74 : decode cX6_enters 74 = .ok (.iload_n 2, 1) := by decide +kernel
theorem dX6_enters_75 : decode cX6_enters 75 = .ok (.iaload, 1) := by decide +kernel
theorem dX6_enters_76 : decode cX6_enters 76 = .ok (.imul, 1) := by decide +kernel
theorem dX6_enters_77 : decode cX6_enters 77 = .ok (.goto 9, 3) := by decide +kernel
theorem dX6_enters_80 : decode cX6_enters 80 = .ok (.aload_n 0, 1) := by decide +kernel
theorem dX6_enters_81 : decode cX6_enters 81 = .ok (.getfield 13, 3) := by decide +kernel
theorem dX6_enters_84 : decode cX6_enters 84 = .ok (.iload_n 2, 1) := by decide +kernel
theorem dX6_enters_85 : decode cX6_enters 85 = .ok (.iaload, 1) := by decide +kernel
theorem dX6_enters_86 : decode cX6_enters 86 = .ok (.iastore, 1) := by decide +kernel
theorem dX6_enters_87 : decode cX6_enters 87 = .ok (.return_, 1) := by decide +kernel
theorem dX6_leaves_0 : decode cX6_leaves 0 = .ok (.iconst 2, 1) := by decide +kernel
theorem dX6_leaves_1 : decode cX6_leaves 1 = .ok (.iload_n 1, 1) := by decide +kernel
theorem dX6_leaves_2 : decode cX6_leaves 2 = .ok (.imul, 1) := by decide +kernel
theorem dX6_leaves_3 : decode cX6_leaves 3 = .ok (.iload_n 2, 1) := by decide +kernel
theorem dX6_leaves_4 : decode cX6_leaves 4 = .ok (.iadd, 1) := by decide +kernel
theorem dX6_leaves_5 : decode cX6_leaves 5 = .ok (.istore_n 3, 1) := by decide +kernel
theorem dX6_leaves_6 : decode cX6_leaves 6 = .ok (.aload_n 0, 1) := by decide +kernel
theorem dX6_leaves_7 : decode cX6_leaves 7 = .ok (.getfield 99, 3) := by decide +kernel
theorem dX6_leaves_10 : decode cX6_leaves 10 = .ok (.iload_n 3, 1) := by decide +kernel
theorem dX6_leaves_11 : decode cX6_leaves 11 = .ok (.dup2, 1) := by decide +kernel
theorem dX6_leaves_12 : decode cX6_leaves 12 = .ok (.iaload, 1) := by decide +kernel
theorem dX6_leaves_13 : decode cX6_leaves 13 = .ok (.iconst 1, 1) := by decide +kernel
theorem dX6_leaves_14 : decode cX6_leaves 14 = .ok (.isub, 1) := by decide +kernel
theorem dX6_leaves_15 : decode cX6_leaves 15 = .ok (.iastore, 1) := by decide +kernel
theorem dX6_leaves_16 : decode cX6_leaves 16 = .ok (.iconst 0, 1) := by decide +kernel
theorem dX6_leaves_17 : decode cX6_leaves 17 = .ok (.istore 4, 2) := by decide +kernel
theorem dX6_leaves_19 : decode cX6_leaves 19 = .ok (.iload 4, 2) := by decide +kernel
theorem dX6_leaves_21 : decode cX6_leaves 21 = .ok (.aload_n 0, 1) := by decide +kernel
theorem dX6_leaves_22 : decode cX6_leaves 22 = .ok (.getfield 99, 3) := by decide +kernel
theorem dX6_leaves_25 : decode cX6_leaves 25 = .ok (.iload_n 3, 1) := by decide +kernel
theorem dX6_leaves_26 : decode cX6_leaves 26 = .ok (.iaload, 1) := by decide +kernel
theorem dX6_leaves_27 : decode cX6_leaves 27 = .ok (.if_icmp .ge 35, 3) := by decide +kernel
theorem dX6_leaves_30 : decode cX6_leaves 30 = .ok (.aload_n 0, 1) := by decide +kernel
theorem dX6_leaves_31 : decode cX6_leaves 31 = .ok (.getfield 102, 3) := by decide +kernel
theorem dX6_leaves_34 : decode cX6_leaves 34 = .ok (.bipush 30, 2) := by decide +kernel
theorem dX6_leaves_36 : decode cX6_leaves 36 = .ok (.iload_n 3, 1) := by decide +kernel
theorem dX6_leaves_37 : decode cX6_leaves 37 = .ok (.imul, 1) := by decide +kernel
theorem dX6_leaves_38 : decode cX6_leaves 38 = .ok (.iload 4, 2) := by decide +kernel
theorem dX6_leaves_40 : decode cX6_leaves 40 = .ok (.iadd, 1) := by decide +kernel
theorem dX6_leaves_41 : decode cX6_leaves 41 = .ok (.aload_n 0, 1) := by decide +kernel
theorem dX6_leaves_42 : decode cX6_leaves 42 = .ok (.getfield 102, 3) := by decide +kernel
theorem dX6_leaves_45 : decode cX6_leaves 45 = .ok (.bipush 30, 2) := by decide +kernel
theorem dX6_leaves_47 : decode cX6_leaves 47 = .ok (.iload_n 3, 1) := by decide +kernel
theorem dX6_leaves_48 : decode cX6_leaves 48 = .ok (.imul, 1) := by decide +kernel
theorem dX6_leaves_49 : decode cX6_leaves 49 = .ok (.iload 4, 2) := by decide +kernel
theorem dX6_leaves_51 : decode cX6_leaves 51 = .ok (.iadd, 1) := by decide +kernel
theorem dX6_leaves_52 : decode cX6_leaves 52 = .ok (.iconst 1, 1) := by decide +kernel
theorem dX6_leaves_53 : decode cX6_leaves 53 = .ok (.iadd, 1) := by decide +kernel
theorem dX6_leaves_54 : decode cX6_leaves 54 = .ok (.iaload, 1) := by decide +kernel
theorem dX6_leaves_55 : decode cX6_leaves 55 = .ok (.iastore, 1) := by decide +kernel
theorem dX6_leaves_56 : decode cX6_leaves 56 = .ok (.iinc 4 1, 3) := by decide +kernel
theorem dX6_leaves_59 : decode cX6_leaves 59 = .ok (.goto (-40), 3) := by decide +kernel
theorem dX6_leaves_62 : decode cX6_leaves 62 = .ok (.return_, 1) := by decide +kernel
theorem dX6_moves_0 : decode cX6_moves 0 = .ok (.iconst 2, 1) := by decide +kernel
theorem dX6_moves_1 : decode cX6_moves 1 = .ok (.iload_n 1, 1) := by decide +kernel
theorem dX6_moves_2 : decode cX6_moves 2 = .ok (.imul, 1) := by decide +kernel
theorem dX6_moves_3 : decode cX6_moves 3 = .ok (.iload_n 2, 1) := by decide +kernel
theorem dX6_moves_4 : decode cX6_moves 4 = .ok (.iadd, 1) := by decide +kernel
theorem dX6_moves_5 : decode cX6_moves 5 = .ok (.istore_n 3, 1) := by decide +kernel
theorem dX6_moves_6 : decode cX6_moves 6 = .ok (.iconst 0, 1) := by decide +kernel
theorem dX6_moves_7 : decode cX6_moves 7 = .ok (.istore 4, 2) := by decide +kernel
theorem dX6_moves_9 : decode cX6_moves 9 = .ok (.iconst 0, 1) := by decide +kernel
theorem dX6_moves_10 : decode cX6_moves 10 = .ok (.istore 5, 2) := by decide +kernel
theorem dX6_moves_12 : decode cX6_moves 12 = .ok (.iload 4, 2) := by decide +kernel
theorem dX6_moves_14 : decode cX6_moves 14 = .ok (.aload_n 0, 1) := by decide +kernel
theorem dX6_moves_15 : decode cX6_moves 15 = .ok (.getfield 99, 3) := by decide +kernel
theorem dX6_moves_18 : decode cX6_moves 18 = .ok (.iload_n 3, 1) := by decide +kernel
theorem dX6_moves_19 : decode cX6_moves 19 = .ok (.iaload, 1) := by decide +kernel
theorem dX6_moves_20 : decode cX6_moves 20 = .ok (.if_icmp .ge 161, 3) := by decide +kernel
theorem dX6_moves_23 : decode cX6_moves 23 = .ok (.aload_n 0, 1) := by decide +kernel
theorem dX6_moves_24 : decode cX6_moves 24 = .ok (.getfield 102, 3) := by decide +kernel
theorem dX6_moves_27 : decode cX6_moves 27 = .ok (.bipush 30, 2) := by decide +kernel
theorem dX6_moves_29 : decode cX6_moves 29 = .ok (.iload_n 3, 1) := by decide +kernel
theorem dX6_moves_30 : decode cX6_moves 30 = .ok (.imul, 1) := by decide +kernel
theorem dX6_moves_31 : decode cX6_moves 31 = .ok (.iload 4, 2) := by decide +kernel
theorem dX6_moves_33 : decode cX6_moves 33 = .ok (.iadd, 1) := by decide +kernel
theorem dX6_moves_34 : decode cX6_moves 34 = .ok (.iaload, 1) := by decide +kernel
theorem dX6_moves_35 : decode cX6_moves 35 = .ok (.istore 6, 2) := by decide +kernel
theorem dX6_moves_37 : decode cX6_moves 37 = .ok (.iload 5, 2) := by decide +kernel
theorem dX6_moves_39 : decode cX6_moves 39 = .ok (.ifCond .ne 13, 3) := by decide +kernel
theorem dX6_moves_42 : decode cX6_moves 42 = .ok (.aload_n 0, 1) := by decide +kernel
theorem dX6_moves_43 : decode cX6_moves 43 = .ok (.getfield 66, 3) := by decide +kernel
theorem dX6_moves_46 : decode cX6_moves 46 = .ok (.iload 6, 2) := by decide +kernel
theorem dX6_moves_48 : decode cX6_moves 48 = .ok (.iaload, 1) := by decide +kernel
theorem dX6_moves_49 : decode cX6_moves 49 = .ok (.ifCond .le 7, 3) := by decide +kernel
theorem dX6_moves_52 : decode cX6_moves 52 = .ok (.iconst 1, 1) := by decide +kernel
theorem dX6_moves_53 : decode cX6_moves 53 = .ok (.goto 4, 3) := by decide +kernel
theorem dX6_moves_56 : decode cX6_moves 56 = .ok (.iconst 0, 1) := by decide +kernel
theorem dX6_moves_57 : decode cX6_moves 57 = .ok (.istore 5, 2) := by decide +kernel
theorem dX6_moves_59 : decode cX6_moves 59 = .ok (.iconst 0, 1) := by decide +kernel
theorem dX6_moves_60 : decode cX6_moves 60 = .ok (.istore 7, 2) := by decide +kernel
theorem dX6_moves_62 : decode cX6_moves 62 = .ok (.iload 5, 2) := by decide +kernel
theorem dX6_moves_64 : decode cX6_moves 64 = .ok (.ifCond .eq 20, 3) := by decide +kernel
theorem dX6_moves_67 : decode cX6_moves 67 = .ok (.aload_n 0, 1) := by decide +kernel
theorem dX6_moves_68 : decode cX6_moves 68 = .ok (.getfield 72, 3) := by decide +kernel
theorem dX6_moves_71 : decode cX6_moves 71 = .ok (.bipush 7, 2) := by decide +kernel
theorem dX6_moves_73 : decode cX6_moves 73 = .ok (.iload 6, 2) := by decide +kernel
theorem dX6_moves_75 : decode cX6_moves 75 = .ok (.imul, 1) := by decide +kernel
theorem dX6_moves_76 : decode cX6_moves 76 = .ok (.dup2, 1) := by decide +kernel
theorem dX6_moves_77 : decode cX6_moves 77 = .ok (.iaload, 1) := by decide +kernel
theorem dX6_moves_78 : decode cX6_moves 78 = .ok (.iconst 1, 1) := by decide +kernel
theorem dX6_moves_79 : decode cX6_moves 79 = .ok (.iadd, 1) := by decide +kernel
theorem dX6_moves_80 : decode cX6_moves 80 = .ok (.iastore, 1) := by decide +kernel
theorem dX6_moves_81 : decode cX6_moves 81 = .ok (.goto 82, 3) := by decide +kernel
theorem dX6_moves_84 : decode cX6_moves 84 = .ok (.aload_n 0, 1) := by decide +kernel
theorem dX6_moves_85 : decode cX6_moves 85 = .ok (.getfield 51, 3) := by decide +kernel
theorem dX6_moves_88 : decode cX6_moves 88 = .ok (.iload 6, 2) := by decide +kernel
theorem dX6_moves_90 : decode cX6_moves 90 = .ok (.dup2, 1) := by decide +kernel
theorem dX6_moves_91 : decode cX6_moves 91 = .ok (.iaload, 1) := by decide +kernel
theorem dX6_moves_92 : decode cX6_moves 92 = .ok (.aload_n 0, 1) := by decide +kernel
theorem dX6_moves_93 : decode cX6_moves 93 = .ok (.getfield 51, 3) := by decide +kernel
theorem dX6_moves_96 : decode cX6_moves 96 = .ok (.iload 6, 2) := by decide +kernel
theorem dX6_moves_98 : decode cX6_moves 98 = .ok (.iaload, 1) := by decide +kernel
theorem dX6_moves_99 : decode cX6_moves 99 = .ok (.ifCond .le 7, 3) := by decide +kernel
theorem dX6_moves_102 : decode cX6_moves 102 = .ok (.iconst 1, 1) := by decide +kernel
theorem dX6_moves_103 : decode cX6_moves 103 = .ok (.goto 4, 3) := by decide +kernel
theorem dX6_moves_106 : decode cX6_moves 106 = .ok (.iconst 0, 1) := by decide +kernel
theorem dX6_moves_107 : decode cX6_moves 107 = .ok (.isub, 1) := by decide +kernel
theorem dX6_moves_108 : decode cX6_moves 108 = .ok (.iastore, 1) := by decide +kernel
theorem dX6_moves_109 : decode cX6_moves 109 = .ok (.aload_n 0, 1) := by decide +kernel
theorem dX6_moves_110 : decode cX6_moves 110 = .ok (.getfield 51, 3) := by decide +kernel
theorem dX6_moves_113 : decode cX6_moves 113 = .ok (.iload 6, 2) := by decide +kernel
theorem dX6_moves_115 : decode cX6_moves 115 = .ok (.iaload, 1) := by decide +kernel
theorem dX6_moves_116 : decode cX6_moves 116 = .ok (.ifCond .ne 47, 3) := by decide +kernel
theorem dX6_moves_119 : decode cX6_moves 119 = .ok (.iload 4, 2) := by decide +kernel
theorem dX6_moves_121 : decode cX6_moves 121 = .ok (.ifCond .ne 17, 3) := by decide +kernel
theorem dX6_moves_124 : decode cX6_moves 124 = .ok (.aload_n 0, 1) := by decide +kernel
theorem dX6_moves_125 : decode cX6_moves 125 = .ok (.iload 6, 2) := by decide +kernel
theorem dX6_moves_127 : decode cX6_moves 127 = .ok (.iload_n 1, 1) := by decide +kernel
theorem dX6_moves_128 : decode cX6_moves 128 = .ok (.invokevirtual 141, 3) := by decide +kernel
theorem dX6_moves_131 : decode cX6_moves 131 = .ok (.ifCond .eq 7, 3) := by decide +kernel
theorem dX6_moves_134 : decode cX6_moves 134 = .ok (.iconst 1, 1) := by decide +kernel
theorem dX6_moves_135 : decode cX6_moves 135 = .ok (.goto 4, 3) := by decide +kernel
theorem dX6_moves_138 : decode cX6_moves 138 = .ok (.iconst 0, 1) := by decide +kernel
theorem dX6_moves_139 : decode cX6_moves 139 = .ok (.istore 7, 2) := by decide +kernel
theorem dX6_moves_141 : decode cX6_moves 141 = .ok (.iload 4, 2) := by decide +kernel
theorem dX6_moves_143 : decode cX6_moves 143 = .ok (.ifCond .le 20, 3) := by decide +kernel
theorem dX6_moves_146 : decode cX6_moves 146 = .ok (.aload_n 0, 1) := by decide +kernel
theorem dX6_moves_147 : decode cX6_moves 147 = .ok (.getfield 72, 3) := by decide +kernel
theorem dX6_moves_150 : decode cX6_moves 150 = .ok (.bipush 7, 2) := by decide +kernel
theorem dX6_moves_152 : decode cX6_moves 152 = .ok (.iload 6, 2) := by decide +kernel
theorem dX6_moves_154 : decode cX6_moves 154 = .ok (.imul, 1) := by decide +kernel
theorem dX6_moves_155 : decode cX6_moves 155 = .ok (.bipush 6, 2) := by decide +kernel
theorem dX6_moves_157 : decode cX6_moves 157 = .ok (.iadd, 1) := by decide +kernel
theorem dX6_moves_158 : decode cX6_moves 158 = .ok (.dup2, 1) := by decide +kernel
theorem dX6_moves_159 : decode cX6_moves 159 = .ok (.iaload, 1) := by decide +kernel
theorem dX6_moves_160 : decode cX6_moves 160 = .ok (.iconst 1, 1) := by decide +kernel
theorem dX6_moves_161 : decode cX6_moves 161 = .ok (.iadd, 1) := by decide +kernel
theorem dX6_moves_162 : decode cX6_moves 162 = .ok (.iastore, 1) := by decide +kernel
theorem dX6_moves_163 : decode cX6_moves 163 = .ok (.iload 4, 2) := by decide +kernel
theorem dX6_moves_165 : decode cX6_moves 165 = .ok (.iload 7, 2) := by decide +kernel
theorem dX6_moves_167 : decode cX6_moves 167 = .ok (.ifCond .eq 7, 3) := by decide +kernel
theorem dX6_moves_170 : decode cX6_moves 170 = .ok (.iconst 0, 1) := by decide +kernel
theorem dX6_moves_171 : decode cX6_moves 171 = .ok (.goto 4, 3) := by decide +kernel
theorem dX6_moves_174 : decode cX6_moves 174 = .ok (.iconst 1, 1) := by decide +kernel
theorem dX6_moves_175 : decode cX6_moves 175 = .ok (.iadd, 1) := by decide +kernel
theorem dX6_moves_176 : decode cX6_moves 176 = .ok (.istore 4, 2) := by decide +kernel
theorem dX6_moves_178 : decode cX6_moves 178 = .ok (.goto (-166), 3) := by decide +kernel
theorem dX6_moves_181 : decode cX6_moves 181 = .ok (.return_, 1) := by decide +kernel
theorem dX6_goes_0 : decode cX6_goes 0 = .ok (.aload_n 0, 1) := by decide +kernel
theorem dX6_goes_1 : decode cX6_goes 1 = .ok (.getfield 30, 3) := by decide +kernel
theorem dX6_goes_4 : decode cX6_goes 4 = .ok (.iload_n 1, 1) := by decide +kernel
theorem dX6_goes_5 : decode cX6_goes 5 = .ok (.iaload, 1) := by decide +kernel
theorem dX6_goes_6 : decode cX6_goes 6 = .ok (.istore_n 3, 1) := by decide +kernel
theorem dX6_goes_7 : decode cX6_goes 7 = .ok (.iload_n 2, 1) := by decide +kernel
theorem dX6_goes_8 : decode cX6_goes 8 = .ok (.iload_n 3, 1) := by decide +kernel
theorem dX6_goes_9 : decode cX6_goes 9 = .ok (.ifCond .ne 8, 3) := by decide +kernel
theorem dX6_goes_12 : decode cX6_goes 12 = .ok (.bipush 7, 2) := by decide +kernel
theorem dX6_goes_14 : decode cX6_goes 14 = .ok (.goto 4, 3) := by decide +kernel
theorem dX6_goes_17 : decode cX6_goes 17 = .ok (.iconst 0, 1) := by decide +kernel
theorem dX6_goes_18 : decode cX6_goes 18 = .ok (.if_icmp .ne 29, 3) := by decide +kernel
theorem dX6_goes_21 : decode cX6_goes 21 = .ok (.aload_n 0, 1) := by decide +kernel
theorem dX6_goes_22 : decode cX6_goes 22 = .ok (.iload_n 2, 1) := by decide +kernel
theorem dX6_goes_23 : decode cX6_goes 23 = .ok (.iload_n 3, 1) := by decide +kernel
theorem dX6_goes_24 : decode cX6_goes 24 = .ok (.invokevirtual 144, 3) := by decide +kernel
theorem dX6_goes_27 : decode cX6_goes 27 = .ok (.aload_n 0, 1) := by decide +kernel
theorem dX6_goes_28 : decode cX6_goes 28 = .ok (.getfield 48, 3) := by decide +kernel
theorem dX6_goes_31 : decode cX6_goes 31 = .ok (.iload_n 1, 1) := by decide +kernel
theorem dX6_goes_32 : decode cX6_goes 32 = .ok (.bipush 8, 2) := by decide +kernel
theorem dX6_goes_34 : decode cX6_goes 34 = .ok (.iastore, 1) := by decide +kernel
theorem dX6_goes_35 : decode cX6_goes 35 = .ok (.aload_n 0, 1) := by decide +kernel
theorem dX6_goes_36 : decode cX6_goes 36 = .ok (.getfield 63, 3) := by decide +kernel
theorem dX6_goes_39 : decode cX6_goes 39 = .ok (.iload_n 1, 1) := by decide +kernel
theorem dX6_goes_40 : decode cX6_goes 40 = .ok (.aload_n 0, 1) := by decide +kernel
theorem dX6_goes_41 : decode cX6_goes 41 = .ok (.getfield 112, 3) := by decide +kernel
theorem dX6_goes_44 : decode cX6_goes 44 = .ok (.iastore, 1) := by decide +kernel
theorem dX6_goes_45 : decode cX6_goes 45 = .ok (.iconst 1, 1) := by decide +kernel
theorem dX6_goes_46 : decode cX6_goes 46 = .ok (.ireturn, 1) := by decide +kernel
theorem dX6_goes_47 : decode cX6_goes 47 = .ok (.iload_n 3, 1) := by decide +kernel
theorem dX6_goes_48 : decode cX6_goes 48 = .ok (.ifCond .ne 9, 3) := by decide +kernel
theorem dX6_goes_51 : decode cX6_goes 51 = .ok (.iload_n 2, 1) := by decide +kernel
theorem dX6_goes_52 : decode cX6_goes 52 = .ok (.iconst 1, 1) := by decide +kernel
theorem dX6_goes_53 : decode cX6_goes 53 = .ok (.iadd, 1) := by decide +kernel
theorem dX6_goes_54 : decode cX6_goes 54 = .ok (.goto 6, 3) := by decide +kernel
theorem dX6_goes_57 : decode cX6_goes 57 = .ok (.iload_n 2, 1) := by decide +kernel
theorem dX6_goes_58 : decode cX6_goes 58 = .ok (.iconst 1, 1) := by decide +kernel
theorem dX6_goes_59 : decode cX6_goes 59 = .ok (.isub, 1) := by decide +kernel
theorem dX6_goes_60 : decode cX6_goes 60 = .ok (.istore 4, 2) := by decide +kernel
theorem dX6_goes_62 : decode cX6_goes 62 = .ok (.aload_n 0, 1) := by decide +kernel
theorem dX6_goes_63 : decode cX6_goes 63 = .ok (.iload_n 1, 1) := by decide +kernel
theorem dX6_goes_64 : decode cX6_goes 64 = .ok (.iload 4, 2) := by decide +kernel
theorem dX6_goes_66 : decode cX6_goes 66 = .ok (.invokevirtual 148, 3) := by decide +kernel
theorem dX6_goes_69 : decode cX6_goes 69 = .ok (.istore 5, 2) := by decide +kernel
theorem dX6_goes_71 : decode cX6_goes 71 = .ok (.iload 5, 2) := by decide +kernel
theorem dX6_goes_73 : decode cX6_goes 73 = .ok (.ifCond .lt 21, 3) := by decide +kernel
theorem dX6_goes_76 : decode cX6_goes 76 = .ok (.aload_n 0, 1) := by decide +kernel
theorem dX6_goes_77 : decode cX6_goes 77 = .ok (.getfield 72, 3) := by decide +kernel
theorem dX6_goes_80 : decode cX6_goes 80 = .ok (.bipush 7, 2) := by decide +kernel
theorem dX6_goes_82 : decode cX6_goes 82 = .ok (.iload_n 1, 1) := by decide +kernel
theorem dX6_goes_83 : decode cX6_goes 83 = .ok (.imul, 1) := by decide +kernel
theorem dX6_goes_84 : decode cX6_goes 84 = .ok (.iload 5, 2) := by decide +kernel
theorem dX6_goes_86 : decode cX6_goes 86 = .ok (.iadd, 1) := by decide +kernel
theorem dX6_goes_87 : decode cX6_goes 87 = .ok (.dup2, 1) := by decide +kernel
theorem dX6_goes_88 : decode cX6_goes 88 = .ok (.iaload, 1) := by decide +kernel
theorem dX6_goes_89 : decode cX6_goes 89 = .ok (.iconst 1, 1) := by decide +kernel
theorem dX6_goes_90 : decode cX6_goes 90 = .ok (.iadd, 1) := by decide +kernel
theorem dX6_goes_91 : decode cX6_goes 91 = .ok (.iastore, 1) := by decide +kernel
theorem dX6_goes_92 : decode cX6_goes 92 = .ok (.iconst 0, 1) := by decide +kernel
theorem dX6_goes_93 : decode cX6_goes 93 = .ok (.ireturn, 1) := by decide +kernel
theorem dX6_goes_94 : decode cX6_goes 94 = .ok (.aload_n 0, 1) := by decide +kernel
theorem dX6_goes_95 : decode cX6_goes 95 = .ok (.iload_n 2, 1) := by decide +kernel
theorem dX6_goes_96 : decode cX6_goes 96 = .ok (.iload_n 3, 1) := by decide +kernel
theorem dX6_goes_97 : decode cX6_goes 97 = .ok (.invokevirtual 144, 3) := by decide +kernel
theorem dX6_goes_100 : decode cX6_goes 100 = .ok (.aload_n 0, 1) := by decide +kernel
theorem dX6_goes_101 : decode cX6_goes 101 = .ok (.iload_n 1, 1) := by decide +kernel
theorem dX6_goes_102 : decode cX6_goes 102 = .ok (.iload 4, 2) := by decide +kernel
theorem dX6_goes_104 : decode cX6_goes 104 = .ok (.invokevirtual 152, 3) := by decide +kernel
theorem dX6_goes_107 : decode cX6_goes 107 = .ok (.iconst 1, 1) := by decide +kernel
theorem dX6_goes_108 : decode cX6_goes 108 = .ok (.ireturn, 1) := by decide +kernel
theorem dX6_comesIn_0 : decode cX6_comesIn 0 = .ok (.aload_n 0, 1) := by decide +kernel
theorem dX6_comesIn_1 : decode cX6_comesIn 1 = .ok (.getfield 93, 3) := by decide +kernel
theorem dX6_comesIn_4 : decode cX6_comesIn 4 = .ok (.iload_n 1, 1) := by decide +kernel
theorem dX6_comesIn_5 : decode cX6_comesIn 5 = .ok (.iaload, 1) := by decide +kernel
theorem dX6_comesIn_6 : decode cX6_comesIn 6 = .ok (.ifCond .ne 4, 3) := by decide +kernel
theorem dX6_comesIn_9 : decode cX6_comesIn 9 = .ok (.return_, 1) := by decide +kernel
theorem dX6_comesIn_10 : decode cX6_comesIn 10 = .ok (.aload_n 0, 1) := by decide +kernel
theorem dX6_comesIn_11 : decode cX6_comesIn 11 = .ok (.getfield 96, 3) := by decide +kernel
theorem dX6_comesIn_14 : decode cX6_comesIn 14 = .ok (.bipush 30, 2) := by decide +kernel
theorem dX6_comesIn_16 : decode cX6_comesIn 16 = .ok (.iload_n 1, 1) := by decide +kernel
theorem dX6_comesIn_17 : decode cX6_comesIn 17 = .ok (.imul, 1) := by decide +kernel
theorem dX6_comesIn_18 : decode cX6_comesIn 18 = .ok (.iaload, 1) := by decide +kernel
theorem dX6_comesIn_19 : decode cX6_comesIn 19 = .ok (.istore_n 2, 1) := by decide +kernel
theorem dX6_comesIn_20 : decode cX6_comesIn 20 = .ok (.iload_n 1, 1) := by decide +kernel
theorem dX6_comesIn_21 : decode cX6_comesIn 21 = .ok (.ifCond .ne 7, 3) := by decide +kernel
theorem dX6_comesIn_24 : decode cX6_comesIn 24 = .ok (.iconst 0, 1) := by decide +kernel
theorem dX6_comesIn_25 : decode cX6_comesIn 25 = .ok (.goto 5, 3) := by decide +kernel
theorem dX6_comesIn_28 : decode cX6_comesIn 28 = .ok (.bipush 7, 2) := by decide +kernel
theorem dX6_comesIn_30 : decode cX6_comesIn 30 = .ok (.istore_n 3, 1) := by decide +kernel
theorem dX6_comesIn_31 : decode cX6_comesIn 31 = .ok (.aload_n 0, 1) := by decide +kernel
theorem dX6_comesIn_32 : decode cX6_comesIn 32 = .ok (.iload_n 2, 1) := by decide +kernel
theorem dX6_comesIn_33 : decode cX6_comesIn 33 = .ok (.iload_n 3, 1) := by decide +kernel
theorem dX6_comesIn_34 : decode cX6_comesIn 34 = .ok (.invokevirtual 148, 3) := by decide +kernel
theorem dX6_comesIn_37 : decode cX6_comesIn 37 = .ok (.istore 4, 2) := by decide +kernel
theorem dX6_comesIn_39 : decode cX6_comesIn 39 = .ok (.iconst 1, 1) := by decide +kernel
theorem dX6_comesIn_40 : decode cX6_comesIn 40 = .ok (.istore 5, 2) := by decide +kernel
theorem dX6_comesIn_42 : decode cX6_comesIn 42 = .ok (.iload 5, 2) := by decide +kernel
theorem dX6_comesIn_44 : decode cX6_comesIn 44 = .ok (.aload_n 0, 1) := by decide +kernel
theorem dX6_comesIn_45 : decode cX6_comesIn 45 = .ok (.getfield 93, 3) := by decide +kernel
theorem dX6_comesIn_48 : decode cX6_comesIn 48 = .ok (.iload_n 1, 1) := by decide +kernel
theorem dX6_comesIn_49 : decode cX6_comesIn 49 = .ok (.iaload, 1) := by decide +kernel
theorem dX6_comesIn_50 : decode cX6_comesIn 50 = .ok (.if_icmp .ge 36, 3) := by decide +kernel
theorem dX6_comesIn_53 : decode cX6_comesIn 53 = .ok (.aload_n 0, 1) := by decide +kernel
theorem dX6_comesIn_54 : decode cX6_comesIn 54 = .ok (.getfield 72, 3) := by decide +kernel
theorem dX6_comesIn_57 : decode cX6_comesIn 57 = .ok (.bipush 7, 2) := by decide +kernel
theorem dX6_comesIn_59 : decode cX6_comesIn 59 = .ok (.aload_n 0, 1) := by decide +kernel
theorem dX6_comesIn_60 : decode cX6_comesIn 60 = .ok (.getfield 96, 3) := by decide +kernel
theorem dX6_comesIn_63 : decode cX6_comesIn 63 = .ok (.bipush 30, 2) := by decide +kernel
theorem dX6_comesIn_65 : decode cX6_comesIn 65 = .ok (.iload_n 1, 1) := by decide +kernel
theorem dX6_comesIn_66 : decode cX6_comesIn 66 = .ok (.imul, 1) := by decide +kernel
theorem dX6_comesIn_67 : decode cX6_comesIn 67 = .ok (.iload 5, 2) := by decide +kernel
theorem dX6_comesIn_69 : decode cX6_comesIn 69 = .ok (.iadd, 1) := by decide +kernel
theorem dX6_comesIn_70 : decode cX6_comesIn 70 = .ok (.iaload, 1) := by decide +kernel
theorem dX6_comesIn_71 : decode cX6_comesIn 71 = .ok (.imul, 1) := by decide +kernel
theorem dX6_comesIn_72 : decode cX6_comesIn 72 = .ok (.bipush 6, 2) := by decide +kernel
theorem dX6_comesIn_74 : decode cX6_comesIn 74 = .ok (.iadd, 1) := by decide +kernel
theorem dX6_comesIn_75 : decode cX6_comesIn 75 = .ok (.dup2, 1) := by decide +kernel
theorem dX6_comesIn_76 : decode cX6_comesIn 76 = .ok (.iaload, 1) := by decide +kernel
theorem dX6_comesIn_77 : decode cX6_comesIn 77 = .ok (.iconst 1, 1) := by decide +kernel
theorem dX6_comesIn_78 : decode cX6_comesIn 78 = .ok (.iadd, 1) := by decide +kernel
theorem dX6_comesIn_79 : decode cX6_comesIn 79 = .ok (.iastore, 1) := by decide +kernel
theorem dX6_comesIn_80 : decode cX6_comesIn 80 = .ok (.iinc 5 1, 3) := by decide +kernel
theorem dX6_comesIn_83 : decode cX6_comesIn 83 = .ok (.goto (-41), 3) := by decide +kernel
theorem dX6_comesIn_86 : decode cX6_comesIn 86 = .ok (.iload 4, 2) := by decide +kernel
theorem dX6_comesIn_88 : decode cX6_comesIn 88 = .ok (.ifCond .lt 20, 3) := by decide +kernel
theorem dX6_comesIn_91 : decode cX6_comesIn 91 = .ok (.aload_n 0, 1) := by decide +kernel
theorem dX6_comesIn_92 : decode cX6_comesIn 92 = .ok (.getfield 72, 3) := by decide +kernel
theorem dX6_comesIn_95 : decode cX6_comesIn 95 = .ok (.bipush 7, 2) := by decide +kernel
theorem dX6_comesIn_97 : decode cX6_comesIn 97 = .ok (.iload_n 2, 1) := by decide +kernel
theorem dX6_comesIn_98 : decode cX6_comesIn 98 = .ok (.imul, 1) := by decide +kernel
theorem dX6_comesIn_99 : decode cX6_comesIn 99 = .ok (.iload 4, 2) := by decide +kernel
theorem dX6_comesIn_101 : decode cX6_comesIn 101 = .ok (.iadd, 1) := by decide +kernel
theorem dX6_comesIn_102 : decode cX6_comesIn 102 = .ok (.dup2, 1) := by decide +kernel
theorem dX6_comesIn_103 : decode cX6_comesIn 103 = .ok (.iaload, 1) := by decide +kernel
theorem dX6_comesIn_104 : decode cX6_comesIn 104 = .ok (.iconst 1, 1) := by decide +kernel
theorem dX6_comesIn_105 : decode cX6_comesIn 105 = .ok (.iadd, 1) := by decide +kernel
theorem dX6_comesIn_106 : decode cX6_comesIn 106 = .ok (.iastore, 1) := by decide +kernel
theorem dX6_comesIn_107 : decode cX6_comesIn 107 = .ok (.return_, 1) := by decide +kernel
theorem dX6_comesIn_108 : decode cX6_comesIn 108 = .ok (.aload_n 0, 1) := by decide +kernel
theorem dX6_comesIn_109 : decode cX6_comesIn 109 = .ok (.getfield 93, 3) := by decide +kernel
theorem dX6_comesIn_112 : decode cX6_comesIn 112 = .ok (.iload_n 1, 1) := by decide +kernel
theorem dX6_comesIn_113 : decode cX6_comesIn 113 = .ok (.dup2, 1) := by decide +kernel
theorem dX6_comesIn_114 : decode cX6_comesIn 114 = .ok (.iaload, 1) := by decide +kernel
theorem dX6_comesIn_115 : decode cX6_comesIn 115 = .ok (.iconst 1, 1) := by decide +kernel
theorem dX6_comesIn_116 : decode cX6_comesIn 116 = .ok (.isub, 1) := by decide +kernel
theorem dX6_comesIn_117 : decode cX6_comesIn 117 = .ok (.iastore, 1) := by decide +kernel
theorem dX6_comesIn_118 : decode cX6_comesIn 118 = .ok (.iconst 0, 1) := by decide +kernel
theorem dX6_comesIn_119 : decode cX6_comesIn 119 = .ok (.istore 5, 2) := by decide +kernel
theorem dX6_comesIn_121 : decode cX6_comesIn 121 = .ok (.iload 5, 2) := by decide +kernel
theorem dX6_comesIn_123 : decode cX6_comesIn 123 = .ok (.aload_n 0, 1) := by decide +kernel
theorem dX6_comesIn_124 : decode cX6_comesIn 124 = .ok (.getfield 93, 3) := by decide +kernel
theorem dX6_comesIn_127 : decode cX6_comesIn 127 = .ok (.iload_n 1, 1) := by decide +kernel
theorem dX6_comesIn_128 : decode cX6_comesIn 128 = .ok (.iaload, 1) := by decide +kernel
theorem dX6_comesIn_129 : decode cX6_comesIn 129 = .ok (.if_icmp .ge 35, 3) := by decide +kernel
theorem dX6_comesIn_132 : decode cX6_comesIn 132 = .ok (.aload_n 0, 1) := by decide +kernel
theorem dX6_comesIn_133 : decode cX6_comesIn 133 = .ok (.getfield 96, 3) := by decide +kernel
theorem dX6_comesIn_136 : decode cX6_comesIn 136 = .ok (.bipush 30, 2) := by decide +kernel
theorem dX6_comesIn_138 : decode cX6_comesIn 138 = .ok (.iload_n 1, 1) := by decide +kernel
theorem dX6_comesIn_139 : decode cX6_comesIn 139 = .ok (.imul, 1) := by decide +kernel
theorem dX6_comesIn_140 : decode cX6_comesIn 140 = .ok (.iload 5, 2) := by decide +kernel
theorem dX6_comesIn_142 : decode cX6_comesIn 142 = .ok (.iadd, 1) := by decide +kernel
theorem dX6_comesIn_143 : decode cX6_comesIn 143 = .ok (.aload_n 0, 1) := by decide +kernel
theorem dX6_comesIn_144 : decode cX6_comesIn 144 = .ok (.getfield 96, 3) := by decide +kernel
theorem dX6_comesIn_147 : decode cX6_comesIn 147 = .ok (.bipush 30, 2) := by decide +kernel
theorem dX6_comesIn_149 : decode cX6_comesIn 149 = .ok (.iload_n 1, 1) := by decide +kernel
theorem dX6_comesIn_150 : decode cX6_comesIn 150 = .ok (.imul, 1) := by decide +kernel
theorem dX6_comesIn_151 : decode cX6_comesIn 151 = .ok (.iload 5, 2) := by decide +kernel
theorem dX6_comesIn_153 : decode cX6_comesIn 153 = .ok (.iadd, 1) := by decide +kernel
theorem dX6_comesIn_154 : decode cX6_comesIn 154 = .ok (.iconst 1, 1) := by decide +kernel
theorem dX6_comesIn_155 : decode cX6_comesIn 155 = .ok (.iadd, 1) := by decide +kernel
theorem dX6_comesIn_156 : decode cX6_comesIn 156 = .ok (.iaload, 1) := by decide +kernel
theorem dX6_comesIn_157 : decode cX6_comesIn 157 = .ok (.iastore, 1) := by decide +kernel
theorem dX6_comesIn_158 : decode cX6_comesIn 158 = .ok (.iinc 5 1, 3) := by decide +kernel
theorem dX6_comesIn_161 : decode cX6_comesIn 161 = .ok (.goto (-40), 3) := by decide +kernel
theorem dX6_comesIn_164 : decode cX6_comesIn 164 = .ok (.aload_n 0, 1) := by decide +kernel
theorem dX6_comesIn_165 : decode cX6_comesIn 165 = .ok (.getfield 60, 3) := by decide +kernel
theorem dX6_comesIn_168 : decode cX6_comesIn 168 = .ok (.iload_n 2, 1) := by decide +kernel
theorem dX6_comesIn_169 : decode cX6_comesIn 169 = .ok (.aload_n 0, 1) := by decide +kernel
theorem dX6_comesIn_170 : decode cX6_comesIn 170 = .ok (.getfield 112, 3) := by decide +kernel
theorem dX6_comesIn_173 : decode cX6_comesIn 173 = .ok (.iastore, 1) := by decide +kernel
theorem dX6_comesIn_174 : decode cX6_comesIn 174 = .ok (.aload_n 0, 1) := by decide +kernel
theorem dX6_comesIn_175 : decode cX6_comesIn 175 = .ok (.iload_n 2, 1) := by decide +kernel
theorem dX6_comesIn_176 : decode cX6_comesIn 176 = .ok (.iload_n 3, 1) := by decide +kernel
theorem dX6_comesIn_177 : decode cX6_comesIn 177 = .ok (.invokevirtual 152, 3) := by decide +kernel
theorem dX6_comesIn_180 : decode cX6_comesIn 180 = .ok (.return_, 1) := by decide +kernel
theorem dX6_minutes_0 : decode cX6_minutes 0 = .ok (.iload_n 1, 1) := by decide +kernel
theorem dX6_minutes_1 : decode cX6_minutes 1 = .ok (.iconst 1, 1) := by decide +kernel
theorem dX6_minutes_2 : decode cX6_minutes 2 = .ok (.sipush 300, 3) := by decide +kernel
theorem dX6_minutes_5 : decode cX6_minutes 5 = .ok (.invokestatic 108, 3) := by decide +kernel
theorem dX6_minutes_8 : decode cX6_minutes 8 = .ok (.ifCond .ne 5, 3) := by decide +kernel
theorem dX6_minutes_11 : decode cX6_minutes 11 = .ok (.iconst (-1), 1) := by decide +kernel
theorem dX6_minutes_12 : decode cX6_minutes 12 = .ok (.ireturn, 1) := by decide +kernel
theorem dX6_minutes_13 : decode cX6_minutes 13 = .ok (.aload_n 0, 1) := by decide +kernel
theorem dX6_minutes_14 : decode cX6_minutes 14 = .ok (.getfield 112, 3) := by decide +kernel
theorem dX6_minutes_17 : decode cX6_minutes 17 = .ok (.iload_n 1, 1) := by decide +kernel
theorem dX6_minutes_18 : decode cX6_minutes 18 = .ok (.iadd, 1) := by decide +kernel
theorem dX6_minutes_19 : decode cX6_minutes 19 = .ok (.sipush 10000, 3) := by decide +kernel
theorem dX6_minutes_22 : decode cX6_minutes 22 = .ok (.if_icmp .le 6, 3) := by decide +kernel
theorem dX6_minutes_25 : decode cX6_minutes 25 = .ok (.bipush (-3), 2) := by decide +kernel
theorem dX6_minutes_27 : decode cX6_minutes 27 = .ok (.ireturn, 1) := by decide +kernel
theorem dX6_minutes_28 : decode cX6_minutes 28 = .ok (.iconst 0, 1) := by decide +kernel
theorem dX6_minutes_29 : decode cX6_minutes 29 = .ok (.istore_n 2, 1) := by decide +kernel
theorem dX6_minutes_30 : decode cX6_minutes 30 = .ok (.iload_n 2, 1) := by decide +kernel
theorem dX6_minutes_31 : decode cX6_minutes 31 = .ok (.iload_n 1, 1) := by decide +kernel
theorem dX6_minutes_32 : decode cX6_minutes 32 = .ok (.if_icmp .ge 115, 3) := by decide +kernel
theorem dX6_minutes_35 : decode cX6_minutes 35 = .ok (.aload_n 0, 1) := by decide +kernel
theorem dX6_minutes_36 : decode cX6_minutes 36 = .ok (.invokevirtual 155, 3) := by decide +kernel
theorem dX6_minutes_39 : decode cX6_minutes 39 = .ok (.aload_n 0, 1) := by decide +kernel
theorem dX6_minutes_40 : decode cX6_minutes 40 = .ok (.invokevirtual 158, 3) := by decide +kernel
theorem dX6_minutes_43 : decode cX6_minutes 43 = .ok (.bipush 7, 2) := by decide +kernel
theorem dX6_minutes_45 : decode cX6_minutes 45 = .ok (.istore_n 3, 1) := by decide +kernel
theorem dX6_minutes_46 : decode cX6_minutes 46 = .ok (.iload_n 3, 1) := by decide +kernel
theorem dX6_minutes_47 : decode cX6_minutes 47 = .ok (.ifCond .lt 15, 3) := by decide +kernel
theorem dX6_minutes_50 : decode cX6_minutes 50 = .ok (.aload_n 0, 1) := by decide +kernel
theorem dX6_minutes_51 : decode cX6_minutes 51 = .ok (.iload_n 3, 1) := by decide +kernel
theorem dX6_minutes_52 : decode cX6_minutes 52 = .ok (.iconst 0, 1) := by decide +kernel
theorem dX6_minutes_53 : decode cX6_minutes 53 = .ok (.invokevirtual 161, 3) := by decide +kernel
theorem dX6_minutes_56 : decode cX6_minutes 56 = .ok (.iinc 3 (-1), 3) := by decide +kernel
theorem dX6_minutes_59 : decode cX6_minutes 59 = .ok (.goto (-13), 3) := by decide +kernel
theorem dX6_minutes_62 : decode cX6_minutes 62 = .ok (.iconst 0, 1) := by decide +kernel
theorem dX6_minutes_63 : decode cX6_minutes 63 = .ok (.istore_n 3, 1) := by decide +kernel
theorem dX6_minutes_64 : decode cX6_minutes 64 = .ok (.iload_n 3, 1) := by decide +kernel
theorem dX6_minutes_65 : decode cX6_minutes 65 = .ok (.bipush 8, 2) := by decide +kernel
theorem dX6_minutes_67 : decode cX6_minutes 67 = .ok (.if_icmp .ge 15, 3) := by decide +kernel
theorem dX6_minutes_70 : decode cX6_minutes 70 = .ok (.aload_n 0, 1) := by decide +kernel
theorem dX6_minutes_71 : decode cX6_minutes 71 = .ok (.iload_n 3, 1) := by decide +kernel
theorem dX6_minutes_72 : decode cX6_minutes 72 = .ok (.iconst 1, 1) := by decide +kernel
theorem dX6_minutes_73 : decode cX6_minutes 73 = .ok (.invokevirtual 161, 3) := by decide +kernel
theorem dX6_minutes_76 : decode cX6_minutes 76 = .ok (.iinc 3 1, 3) := by decide +kernel
theorem dX6_minutes_79 : decode cX6_minutes 79 = .ok (.goto (-15), 3) := by decide +kernel
theorem dX6_minutes_82 : decode cX6_minutes 82 = .ok (.aload_n 0, 1) := by decide +kernel
theorem dX6_minutes_83 : decode cX6_minutes 83 = .ok (.iconst 0, 1) := by decide +kernel
theorem dX6_minutes_84 : decode cX6_minutes 84 = .ok (.invokevirtual 164, 3) := by decide +kernel
theorem dX6_minutes_87 : decode cX6_minutes 87 = .ok (.aload_n 0, 1) := by decide +kernel
theorem dX6_minutes_88 : decode cX6_minutes 88 = .ok (.iconst 1, 1) := by decide +kernel
theorem dX6_minutes_89 : decode cX6_minutes 89 = .ok (.invokevirtual 164, 3) := by decide +kernel
theorem dX6_minutes_92 : decode cX6_minutes 92 = .ok (.iconst 0, 1) := by decide +kernel
theorem dX6_minutes_93 : decode cX6_minutes 93 = .ok (.istore_n 3, 1) := by decide +kernel
theorem dX6_minutes_94 : decode cX6_minutes 94 = .ok (.iload_n 3, 1) := by decide +kernel
theorem dX6_minutes_95 : decode cX6_minutes 95 = .ok (.aload_n 0, 1) := by decide +kernel
theorem dX6_minutes_96 : decode cX6_minutes 96 = .ok (.getfield 119, 3) := by decide +kernel
theorem dX6_minutes_99 : decode cX6_minutes 99 = .ok (.if_icmp .ge 32, 3) := by decide +kernel
theorem dX6_minutes_102 : decode cX6_minutes 102 = .ok (.aload_n 0, 1) := by decide +kernel
theorem dX6_minutes_103 : decode cX6_minutes 103 = .ok (.getfield 66, 3) := by decide +kernel
theorem dX6_minutes_106 : decode cX6_minutes 106 = .ok (.iload_n 3, 1) := by decide +kernel
theorem dX6_minutes_107 : decode cX6_minutes 107 = .ok (.dup2, 1) := by decide +kernel
theorem dX6_minutes_108 : decode cX6_minutes 108 = .ok (.iaload, 1) := by decide +kernel
theorem dX6_minutes_109 : decode cX6_minutes 109 = .ok (.aload_n 0, 1) := by decide +kernel
theorem dX6_minutes_110 : decode cX6_minutes 110 = .ok (.getfield 66, 3) := by decide +kernel
theorem dX6_minutes_113 : decode cX6_minutes 113 = .ok (.iload_n 3, 1) := by decide +kernel
theorem dX6_minutes_114 : decode cX6_minutes 114 = .ok (.iaload, 1) := by decide +kernel
theorem dX6_minutes_115 : decode cX6_minutes 115 = .ok (.ifCond .le 7, 3) := by decide +kernel
theorem dX6_minutes_118 : decode cX6_minutes 118 = .ok (.iconst 1, 1) := by decide +kernel
theorem dX6_minutes_119 : decode cX6_minutes 119 = .ok (.goto 4, 3) := by decide +kernel
theorem dX6_minutes_122 : decode cX6_minutes 122 = .ok (.iconst 0, 1) := by decide +kernel
theorem dX6_minutes_123 : decode cX6_minutes 123 = .ok (.isub, 1) := by decide +kernel
theorem dX6_minutes_124 : decode cX6_minutes 124 = .ok (.iastore, 1) := by decide +kernel
theorem dX6_minutes_125 : decode cX6_minutes 125 = .ok (.iinc 3 1, 3) := by decide +kernel
theorem dX6_minutes_128 : decode cX6_minutes 128 = .ok (.goto (-34), 3) := by decide +kernel
theorem dX6_minutes_131 : decode cX6_minutes 131 = .ok (.aload_n 0, 1) := by decide +kernel
theorem dX6_minutes_132 : decode cX6_minutes 132 = .ok (.dup, 1) := by decide +kernel
theorem dX6_minutes_133 : decode cX6_minutes 133 = .ok (.getfield 112, 3) := by decide +kernel
theorem dX6_minutes_136 : decode cX6_minutes 136 = .ok (.iconst 1, 1) := by decide +kernel
theorem dX6_minutes_137 : decode cX6_minutes 137 = .ok (.iadd, 1) := by decide +kernel
theorem dX6_minutes_138 : decode cX6_minutes 138 = .ok (.putfield 112, 3) := by decide +kernel
theorem dX6_minutes_141 : decode cX6_minutes 141 = .ok (.iinc 2 1, 3) := by decide +kernel
theorem dX6_minutes_144 : decode cX6_minutes 144 = .ok (.goto (-114), 3) := by decide +kernel
theorem dX6_minutes_147 : decode cX6_minutes 147 = .ok (.aload_n 0, 1) := by decide +kernel
theorem dX6_minutes_148 : decode cX6_minutes 148 = .ok (.getfield 112, 3) := by decide +kernel
theorem dX6_minutes_151 : decode cX6_minutes 151 = .ok (.ireturn, 1) := by decide +kernel
theorem dX6_dues_0 : decode cX6_dues 0 = .ok (.aload_n 0, 1) := by decide +kernel
theorem dX6_dues_1 : decode cX6_dues 1 = .ok (.getfield 45, 3) := by decide +kernel
theorem dX6_dues_4 : decode cX6_dues 4 = .ok (.iload_n 1, 1) := by decide +kernel
theorem dX6_dues_5 : decode cX6_dues 5 = .ok (.iaload, 1) := by decide +kernel
theorem dX6_dues_6 : decode cX6_dues 6 = .ok (.istore_n 2, 1) := by decide +kernel
theorem dX6_dues_7 : decode cX6_dues 7 = .ok (.iload_n 2, 1) := by decide +kernel
theorem dX6_dues_8 : decode cX6_dues 8 = .ok (.sipush 5000, 3) := by decide +kernel
theorem dX6_dues_11 : decode cX6_dues 11 = .ok (.if_icmp .gt 9, 3) := by decide +kernel
theorem dX6_dues_14 : decode cX6_dues 14 = .ok (.iconst 3, 1) := by decide +kernel
theorem dX6_dues_15 : decode cX6_dues 15 = .ok (.iload_n 2, 1) := by decide +kernel
theorem dX6_dues_16 : decode cX6_dues 16 = .ok (.imul, 1) := by decide +kernel
theorem dX6_dues_17 : decode cX6_dues 17 = .ok (.goto 32, 3) := by decide +kernel
theorem dX6_dues_20 : decode cX6_dues 20 = .ok (.iload_n 2, 1) := by decide +kernel
theorem dX6_dues_21 : decode cX6_dues 21 = .ok (.sipush 20000, 3) := by decide +kernel
theorem dX6_dues_24 : decode cX6_dues 24 = .ok (.if_icmp .gt 17, 3) := by decide +kernel
theorem dX6_dues_27 : decode cX6_dues 27 = .ok (.sipush 15000, 3) := by decide +kernel
theorem dX6_dues_30 : decode cX6_dues 30 = .ok (.iconst 2, 1) := by decide +kernel
theorem dX6_dues_31 : decode cX6_dues 31 = .ok (.iload_n 2, 1) := by decide +kernel
theorem dX6_dues_32 : decode cX6_dues 32 = .ok (.sipush 5000, 3) := by decide +kernel
theorem dX6_dues_35 : decode cX6_dues 35 = .ok (.isub, 1) := by decide +kernel
theorem dX6_dues_36 : decode cX6_dues 36 = .ok (.imul, 1) := by decide +kernel
theorem dX6_dues_37 : decode cX6_dues 37 = .ok (.iadd, 1) := by decide +kernel
theorem dX6_dues_38 : decode cX6_dues 38 = .ok (.goto 11, 3) := by decide +kernel
theorem dX6_dues_41 : decode cX6_dues 41 = .ok (.ldc 167, 2) := by decide +kernel
theorem dX6_dues_43 : decode cX6_dues 43 = .ok (.iload_n 2, 1) := by decide +kernel
theorem dX6_dues_44 : decode cX6_dues 44 = .ok (.iadd, 1) := by decide +kernel
theorem dX6_dues_45 : decode cX6_dues 45 = .ok (.sipush 20000, 3) := by decide +kernel
theorem dX6_dues_48 : decode cX6_dues 48 = .ok (.isub, 1) := by decide +kernel
theorem dX6_dues_49 : decode cX6_dues 49 = .ok (.istore_n 3, 1) := by decide +kernel
theorem dX6_dues_50 : decode cX6_dues 50 = .ok (.iload_n 3, 1) := by decide +kernel
theorem dX6_dues_51 : decode cX6_dues 51 = .ok (.aload_n 0, 1) := by decide +kernel
theorem dX6_dues_52 : decode cX6_dues 52 = .ok (.getfield 54, 3) := by decide +kernel
theorem dX6_dues_55 : decode cX6_dues 55 = .ok (.iload_n 1, 1) := by decide +kernel
theorem dX6_dues_56 : decode cX6_dues 56 = .ok (.baload, 1) := by decide +kernel
theorem dX6_dues_57 : decode cX6_dues 57 = .ok (.ifCond .eq 10, 3) := by decide +kernel
theorem dX6_dues_60 : decode cX6_dues 60 = .ok (.iload_n 3, 1) := by decide +kernel
theorem dX6_dues_61 : decode cX6_dues 61 = .ok (.bipush 10, 2) := by decide +kernel
theorem dX6_dues_63 : decode cX6_dues 63 = .ok (.idiv, 1) := by decide +kernel
theorem dX6_dues_64 : decode cX6_dues 64 = .ok (.goto 4, 3) := by decide +kernel
theorem dX6_dues_67 : decode cX6_dues 67 = .ok (.iconst 0, 1) := by decide +kernel
theorem dX6_dues_68 : decode cX6_dues 68 = .ok (.iadd, 1) := by decide +kernel
theorem dX6_dues_69 : decode cX6_dues 69 = .ok (.istore_n 3, 1) := by decide +kernel
theorem dX6_dues_70 : decode cX6_dues 70 = .ok (.iload_n 3, 1) := by decide +kernel
theorem dX6_dues_71 : decode cX6_dues 71 = .ok (.aload_n 0, 1) := by decide +kernel
theorem dX6_dues_72 : decode cX6_dues 72 = .ok (.getfield 72, 3) := by decide +kernel
theorem dX6_dues_75 : decode cX6_dues 75 = .ok (.bipush 7, 2) := by decide +kernel
theorem dX6_dues_77 : decode cX6_dues 77 = .ok (.iload_n 1, 1) := by decide +kernel
theorem dX6_dues_78 : decode cX6_dues 78 = .ok (.imul, 1) := by decide +kernel
theorem dX6_dues_79 : decode cX6_dues 79 = .ok (.iaload, 1) := by decide +kernel
theorem dX6_dues_80 : decode cX6_dues 80 = .ok (.bipush 60, 2) := by decide +kernel
theorem dX6_dues_82 : decode cX6_dues 82 = .ok (.if_icmp .le 10, 3) := by decide +kernel
theorem dX6_dues_85 : decode cX6_dues 85 = .ok (.iload_n 3, 1) := by decide +kernel
theorem dX6_dues_86 : decode cX6_dues 86 = .ok (.bipush 20, 2) := by decide +kernel
theorem dX6_dues_88 : decode cX6_dues 88 = .ok (.idiv, 1) := by decide +kernel
theorem dX6_dues_89 : decode cX6_dues 89 = .ok (.goto 4, 3) := by decide +kernel
theorem dX6_dues_92 : decode cX6_dues 92 = .ok (.iconst 0, 1) := by decide +kernel
theorem dX6_dues_93 : decode cX6_dues 93 = .ok (.isub, 1) := by decide +kernel
theorem dX6_dues_94 : decode cX6_dues 94 = .ok (.istore_n 3, 1) := by decide +kernel
theorem dX6_dues_95 : decode cX6_dues 95 = .ok (.iload_n 3, 1) := by decide +kernel
theorem dX6_dues_96 : decode cX6_dues 96 = .ok (.ireturn, 1) := by decide +kernel
theorem dX6_told_0 : decode cX6_told 0 = .ok (.iload_n 1, 1) := by decide +kernel
theorem dX6_told_1 : decode cX6_told 1 = .ok (.iconst 0, 1) := by decide +kernel
theorem dX6_told_2 : decode cX6_told 2 = .ok (.aload_n 0, 1) := by decide +kernel
theorem dX6_told_3 : decode cX6_told 3 = .ok (.getfield 119, 3) := by decide +kernel
theorem dX6_told_6 : decode cX6_told 6 = .ok (.iconst 1, 1) := by decide +kernel
theorem dX6_told_7 : decode cX6_told 7 = .ok (.isub, 1) := by decide +kernel
theorem dX6_told_8 : decode cX6_told 8 = .ok (.invokestatic 108, 3) := by decide +kernel
theorem dX6_told_11 : decode cX6_told 11 = .ok (.ifCond .eq 13, 3) := by decide +kernel
theorem dX6_told_14 : decode cX6_told 14 = .ok (.iload_n 2, 1) := by decide +kernel
theorem dX6_told_15 : decode cX6_told 15 = .ok (.iconst 0, 1) := by decide +kernel
theorem dX6_told_16 : decode cX6_told 16 = .ok (.bipush 8, 2) := by decide +kernel
theorem dX6_told_18 : decode cX6_told 18 = .ok (.invokestatic 108, 3) := by decide +kernel
theorem dX6_told_21 : decode cX6_told 21 = .ok (.ifCond .ne 6, 3) := by decide +kernel
theorem dX6_told_24 : decode cX6_told 24 = .ok (.bipush (-9), 2) := by decide +kernel
theorem dX6_told_26 : decode cX6_told 26 = .ok (.ireturn, 1) := by decide +kernel
theorem dX6_told_27 : decode cX6_told 27 = .ok (.iload_n 2, 1) := by decide +kernel
theorem dX6_told_28 : decode cX6_told 28 = .ok (.tableswitch 138 0 7 #[48, 55, 81, 96, 111, 118, 125, 131], 48) := by decide +kernel
theorem dX6_told_76 : decode cX6_told 76 = .ok (.aload_n 0, 1) := by decide +kernel
theorem dX6_told_77 : decode cX6_told 77 = .ok (.getfield 48, 3) := by decide +kernel
theorem dX6_told_80 : decode cX6_told 80 = .ok (.iload_n 1, 1) := by decide +kernel
theorem dX6_told_81 : decode cX6_told 81 = .ok (.iaload, 1) := by decide +kernel
theorem dX6_told_82 : decode cX6_told 82 = .ok (.ireturn, 1) := by decide +kernel
theorem dX6_told_83 : decode cX6_told 83 = .ok (.aload_n 0, 1) := by decide +kernel
theorem dX6_told_84 : decode cX6_told 84 = .ok (.getfield 48, 3) := by decide +kernel
theorem dX6_told_87 : decode cX6_told 87 = .ok (.iload_n 1, 1) := by decide +kernel
theorem dX6_told_88 : decode cX6_told 88 = .ok (.iaload, 1) := by decide +kernel
theorem dX6_told_89 : decode cX6_told 89 = .ok (.iconst 0, 1) := by decide +kernel
theorem dX6_told_90 : decode cX6_told 90 = .ok (.bipush 7, 2) := by decide +kernel
theorem dX6_told_92 : decode cX6_told 92 = .ok (.invokestatic 108, 3) := by decide +kernel
theorem dX6_told_95 : decode cX6_told 95 = .ok (.ifCond .eq 12, 3) := by decide +kernel
theorem dX6_told_98 : decode cX6_told 98 = .ok (.aload_n 0, 1) := by decide +kernel
theorem dX6_told_99 : decode cX6_told 99 = .ok (.getfield 51, 3) := by decide +kernel
theorem dX6_told_102 : decode cX6_told 102 = .ok (.iload_n 1, 1) := by decide +kernel
theorem dX6_told_103 : decode cX6_told 103 = .ok (.iaload, 1) := by decide +kernel
theorem dX6_told_104 : decode cX6_told 104 = .ok (.goto 4, 3) := by decide +kernel
theorem dX6_told_107 : decode cX6_told 107 = .ok (.iconst 0, 1) := by decide +kernel
theorem dX6_told_108 : decode cX6_told 108 = .ok (.ireturn, 1) := by decide +kernel
theorem dX6_told_109 : decode cX6_told 109 = .ok (.aload_n 0, 1) := by decide +kernel
theorem dX6_told_110 : decode cX6_told 110 = .ok (.getfield 54, 3) := by decide +kernel
theorem dX6_told_113 : decode cX6_told 113 = .ok (.iload_n 1, 1) := by decide +kernel
theorem dX6_told_114 : decode cX6_told 114 = .ok (.baload, 1) := by decide +kernel
theorem dX6_told_115 : decode cX6_told 115 = .ok (.ifCond .eq 7, 3) := by decide +kernel
theorem dX6_told_118 : decode cX6_told 118 = .ok (.iconst 1, 1) := by decide +kernel
theorem dX6_told_119 : decode cX6_told 119 = .ok (.goto 4, 3) := by decide +kernel
theorem dX6_told_122 : decode cX6_told 122 = .ok (.iconst 0, 1) := by decide +kernel
theorem dX6_told_123 : decode cX6_told 123 = .ok (.ireturn, 1) := by decide +kernel
theorem dX6_told_124 : decode cX6_told 124 = .ok (.aload_n 0, 1) := by decide +kernel
theorem dX6_told_125 : decode cX6_told 125 = .ok (.getfield 57, 3) := by decide +kernel
theorem dX6_told_128 : decode cX6_told 128 = .ok (.iload_n 1, 1) := by decide +kernel
theorem dX6_told_129 : decode cX6_told 129 = .ok (.baload, 1) := by decide +kernel
theorem dX6_told_130 : decode cX6_told 130 = .ok (.ifCond .eq 7, 3) := by decide +kernel
theorem dX6_told_133 : decode cX6_told 133 = .ok (.iconst 1, 1) := by decide +kernel
theorem dX6_told_134 : decode cX6_told 134 = .ok (.goto 4, 3) := by decide +kernel
theorem dX6_told_137 : decode cX6_told 137 = .ok (.iconst 0, 1) := by decide +kernel
theorem dX6_told_138 : decode cX6_told 138 = .ok (.ireturn, 1) := by decide +kernel
theorem dX6_told_139 : decode cX6_told 139 = .ok (.aload_n 0, 1) := by decide +kernel
theorem dX6_told_140 : decode cX6_told 140 = .ok (.getfield 60, 3) := by decide +kernel
theorem dX6_told_143 : decode cX6_told 143 = .ok (.iload_n 1, 1) := by decide +kernel
theorem dX6_told_144 : decode cX6_told 144 = .ok (.iaload, 1) := by decide +kernel
theorem dX6_told_145 : decode cX6_told 145 = .ok (.ireturn, 1) := by decide +kernel
theorem dX6_told_146 : decode cX6_told 146 = .ok (.aload_n 0, 1) := by decide +kernel
theorem dX6_told_147 : decode cX6_told 147 = .ok (.getfield 63, 3) := by decide +kernel
theorem dX6_told_150 : decode cX6_told 150 = .ok (.iload_n 1, 1) := by decide +kernel
theorem dX6_told_151 : decode cX6_told 151 = .ok (.iaload, 1) := by decide +kernel
theorem dX6_told_152 : decode cX6_told 152 = .ok (.ireturn, 1) := by decide +kernel
theorem dX6_told_153 : decode cX6_told 153 = .ok (.aload_n 0, 1) := by decide +kernel
theorem dX6_told_154 : decode cX6_told 154 = .ok (.iload_n 1, 1) := by decide +kernel
theorem dX6_told_155 : decode cX6_told 155 = .ok (.invokevirtual 168, 3) := by decide +kernel
theorem dX6_told_158 : decode cX6_told 158 = .ok (.ireturn, 1) := by decide +kernel
theorem dX6_told_159 : decode cX6_told 159 = .ok (.aload_n 0, 1) := by decide +kernel
theorem dX6_told_160 : decode cX6_told 160 = .ok (.getfield 66, 3) := by decide +kernel
theorem dX6_told_163 : decode cX6_told 163 = .ok (.iload_n 1, 1) := by decide +kernel
theorem dX6_told_164 : decode cX6_told 164 = .ok (.iaload, 1) := by decide +kernel
theorem dX6_told_165 : decode cX6_told 165 = .ok (.ireturn, 1) := by decide +kernel
theorem dX6_told_166 : decode cX6_told 166 = .ok (.aload_n 0, 1) := by decide +kernel
theorem dX6_told_167 : decode cX6_told 167 = .ok (.getfield 69, 3) := by decide +kernel
theorem dX6_told_170 : decode cX6_told 170 = .ok (.iload_n 1, 1) := by decide +kernel
theorem dX6_told_171 : decode cX6_told 171 = .ok (.iaload, 1) := by decide +kernel
theorem dX6_told_172 : decode cX6_told 172 = .ok (.ireturn, 1) := by decide +kernel
theorem dX6_waited_0 : decode cX6_waited 0 = .ok (.iload_n 1, 1) := by decide +kernel
theorem dX6_waited_1 : decode cX6_waited 1 = .ok (.iconst 0, 1) := by decide +kernel
theorem dX6_waited_2 : decode cX6_waited 2 = .ok (.aload_n 0, 1) := by decide +kernel
theorem dX6_waited_3 : decode cX6_waited 3 = .ok (.getfield 119, 3) := by decide +kernel
theorem dX6_waited_6 : decode cX6_waited 6 = .ok (.iconst 1, 1) := by decide +kernel
theorem dX6_waited_7 : decode cX6_waited 7 = .ok (.isub, 1) := by decide +kernel
theorem dX6_waited_8 : decode cX6_waited 8 = .ok (.invokestatic 108, 3) := by decide +kernel
theorem dX6_waited_11 : decode cX6_waited 11 = .ok (.ifCond .eq 13, 3) := by decide +kernel
theorem dX6_waited_14 : decode cX6_waited 14 = .ok (.iload_n 2, 1) := by decide +kernel
theorem dX6_waited_15 : decode cX6_waited 15 = .ok (.iconst (-1), 1) := by decide +kernel
theorem dX6_waited_16 : decode cX6_waited 16 = .ok (.bipush 6, 2) := by decide +kernel
theorem dX6_waited_18 : decode cX6_waited 18 = .ok (.invokestatic 108, 3) := by decide +kernel
theorem dX6_waited_21 : decode cX6_waited 21 = .ok (.ifCond .ne 5, 3) := by decide +kernel
theorem dX6_waited_24 : decode cX6_waited 24 = .ok (.iconst (-1), 1) := by decide +kernel
theorem dX6_waited_25 : decode cX6_waited 25 = .ok (.ireturn, 1) := by decide +kernel
theorem dX6_waited_26 : decode cX6_waited 26 = .ok (.iconst 0, 1) := by decide +kernel
theorem dX6_waited_27 : decode cX6_waited 27 = .ok (.istore_n 3, 1) := by decide +kernel
theorem dX6_waited_28 : decode cX6_waited 28 = .ok (.iconst 0, 1) := by decide +kernel
theorem dX6_waited_29 : decode cX6_waited 29 = .ok (.istore 4, 2) := by decide +kernel
theorem dX6_waited_31 : decode cX6_waited 31 = .ok (.iload 4, 2) := by decide +kernel
theorem dX6_waited_33 : decode cX6_waited 33 = .ok (.bipush 7, 2) := by decide +kernel
theorem dX6_waited_35 : decode cX6_waited 35 = .ok (.if_icmp .ge 38, 3) := by decide +kernel
theorem dX6_waited_38 : decode cX6_waited 38 = .ok (.iload_n 3, 1) := by decide +kernel
theorem dX6_waited_39 : decode cX6_waited 39 = .ok (.iload_n 2, 1) := by decide +kernel
theorem dX6_waited_40 : decode cX6_waited 40 = .ok (.ifCond .lt 9, 3) := by decide +kernel
theorem dX6_waited_43 : decode cX6_waited 43 = .ok (.iload_n 2, 1) := by decide +kernel
theorem dX6_waited_44 : decode cX6_waited 44 = .ok (.iload 4, 2) := by decide +kernel
theorem dX6_waited_46 : decode cX6_waited 46 = .ok (.if_icmp .ne 18, 3) := by decide +kernel
theorem dX6_waited_49 : decode cX6_waited 49 = .ok (.aload_n 0, 1) := by decide +kernel
theorem dX6_waited_50 : decode cX6_waited 50 = .ok (.getfield 72, 3) := by decide +kernel
theorem dX6_waited_53 : decode cX6_waited 53 = .ok (.bipush 7, 2) := by decide +kernel
theorem dX6_waited_55 : decode cX6_waited 55 = .ok (.iload_n 1, 1) := by decide +kernel
theorem dX6_waited_56 : decode cX6_waited 56 = .ok (.imul, 1) := by decide +kernel
theorem dX6_waited_57 : decode cX6_waited 57 = .ok (.iload 4, 2) := by decide +kernel
theorem dX6_waited_59 : decode cX6_waited 59 = .ok (.iadd, 1) := by decide +kernel
theorem dX6_waited_60 : decode cX6_waited 60 = .ok (.iaload, 1) := by decide +kernel
theorem dX6_waited_61 : decode cX6_waited 61 = .ok (.goto 4, 3) := by decide +kernel
theorem dX6_waited_64 : decode cX6_waited 64 = .ok (.iconst 0, 1) := by decide +kernel
theorem dX6_waited_65 : decode cX6_waited 65 = .ok (.iadd, 1) := by decide +kernel
theorem dX6_waited_66 : decode cX6_waited 66 = .ok (.istore_n 3, 1) := by decide +kernel
theorem dX6_waited_67 : decode cX6_waited 67 = .ok (.iinc 4 1, 3) := by decide +kernel
theorem dX6_waited_70 : decode cX6_waited 70 = .ok (.goto (-39), 3) := by decide +kernel
theorem dX6_waited_73 : decode cX6_waited 73 = .ok (.iload_n 3, 1) := by decide +kernel
theorem dX6_waited_74 : decode cX6_waited 74 = .ok (.ireturn, 1) := by decide +kernel
theorem dX6_line_0 : decode cX6_line 0 = .ok (.iload_n 1, 1) := by decide +kernel
theorem dX6_line_1 : decode cX6_line 1 = .ok (.iconst 0, 1) := by decide +kernel
theorem dX6_line_2 : decode cX6_line 2 = .ok (.iconst 1, 1) := by decide +kernel
theorem dX6_line_3 : decode cX6_line 3 = .ok (.invokestatic 108, 3) := by decide +kernel
theorem dX6_line_6 : decode cX6_line 6 = .ok (.ifCond .eq 7, 3) := by decide +kernel
theorem dX6_line_9 : decode cX6_line 9 = .ok (.iload_n 2, 1) := by decide +kernel
theorem dX6_line_10 : decode cX6_line 10 = .ok (.ifCond .ge 5, 3) := by decide +kernel
theorem dX6_line_13 : decode cX6_line 13 = .ok (.iconst (-1), 1) := by decide +kernel
theorem dX6_line_14 : decode cX6_line 14 = .ok (.ireturn, 1) := by decide +kernel
theorem dX6_line_15 : decode cX6_line 15 = .ok (.iload_n 2, 1) := by decide +kernel
theorem dX6_line_16 : decode cX6_line 16 = .ok (.aload_n 0, 1) := by decide +kernel
theorem dX6_line_17 : decode cX6_line 17 = .ok (.getfield 93, 3) := by decide +kernel
theorem dX6_line_20 : decode cX6_line 20 = .ok (.iload_n 1, 1) := by decide +kernel
theorem dX6_line_21 : decode cX6_line 21 = .ok (.iaload, 1) := by decide +kernel
theorem dX6_line_22 : decode cX6_line 22 = .ok (.if_icmp .ge 17, 3) := by decide +kernel
theorem dX6_line_25 : decode cX6_line 25 = .ok (.aload_n 0, 1) := by decide +kernel
theorem dX6_line_26 : decode cX6_line 26 = .ok (.getfield 96, 3) := by decide +kernel
theorem dX6_line_29 : decode cX6_line 29 = .ok (.bipush 30, 2) := by decide +kernel
theorem dX6_line_31 : decode cX6_line 31 = .ok (.iload_n 1, 1) := by decide +kernel
theorem dX6_line_32 : decode cX6_line 32 = .ok (.imul, 1) := by decide +kernel
theorem dX6_line_33 : decode cX6_line 33 = .ok (.iload_n 2, 1) := by decide +kernel
theorem dX6_line_34 : decode cX6_line 34 = .ok (.iadd, 1) := by decide +kernel
theorem dX6_line_35 : decode cX6_line 35 = .ok (.iaload, 1) := by decide +kernel
theorem dX6_line_36 : decode cX6_line 36 = .ok (.goto 5, 3) := by decide +kernel
theorem dX6_line_39 : decode cX6_line 39 = .ok (.bipush (-4), 2) := by decide +kernel
theorem dX6_line_41 : decode cX6_line 41 = .ok (.ireturn, 1) := by decide +kernel
theorem dX6_in_0 : decode cX6_in 0 = .ok (.iload_n 1, 1) := by decide +kernel
theorem dX6_in_1 : decode cX6_in 1 = .ok (.iconst 0, 1) := by decide +kernel
theorem dX6_in_2 : decode cX6_in 2 = .ok (.bipush 7, 2) := by decide +kernel
theorem dX6_in_4 : decode cX6_in 4 = .ok (.invokestatic 108, 3) := by decide +kernel
theorem dX6_in_7 : decode cX6_in 7 = .ok (.ifCond .eq 16, 3) := by decide +kernel
theorem dX6_in_10 : decode cX6_in 10 = .ok (.iload_n 2, 1) := by decide +kernel
theorem dX6_in_11 : decode cX6_in 11 = .ok (.iconst 0, 1) := by decide +kernel
theorem dX6_in_12 : decode cX6_in 12 = .ok (.iconst 1, 1) := by decide +kernel
theorem dX6_in_13 : decode cX6_in 13 = .ok (.invokestatic 108, 3) := by decide +kernel
theorem dX6_in_16 : decode cX6_in 16 = .ok (.ifCond .eq 7, 3) := by decide +kernel
theorem dX6_in_19 : decode cX6_in 19 = .ok (.iload_n 3, 1) := by decide +kernel
theorem dX6_in_20 : decode cX6_in 20 = .ok (.ifCond .ge 5, 3) := by decide +kernel
theorem dX6_in_23 : decode cX6_in 23 = .ok (.iconst (-1), 1) := by decide +kernel
theorem dX6_in_24 : decode cX6_in 24 = .ok (.ireturn, 1) := by decide +kernel
theorem dX6_in_25 : decode cX6_in 25 = .ok (.iload_n 3, 1) := by decide +kernel
theorem dX6_in_26 : decode cX6_in 26 = .ok (.aload_n 0, 1) := by decide +kernel
theorem dX6_in_27 : decode cX6_in 27 = .ok (.getfield 99, 3) := by decide +kernel
theorem dX6_in_30 : decode cX6_in 30 = .ok (.iconst 2, 1) := by decide +kernel
theorem dX6_in_31 : decode cX6_in 31 = .ok (.iload_n 1, 1) := by decide +kernel
theorem dX6_in_32 : decode cX6_in 32 = .ok (.imul, 1) := by decide +kernel
theorem dX6_in_33 : decode cX6_in 33 = .ok (.iload_n 2, 1) := by decide +kernel
theorem dX6_in_34 : decode cX6_in 34 = .ok (.iadd, 1) := by decide +kernel
theorem dX6_in_35 : decode cX6_in 35 = .ok (.iaload, 1) := by decide +kernel
theorem dX6_in_36 : decode cX6_in 36 = .ok (.if_icmp .ge 21, 3) := by decide +kernel
theorem dX6_in_39 : decode cX6_in 39 = .ok (.aload_n 0, 1) := by decide +kernel
theorem dX6_in_40 : decode cX6_in 40 = .ok (.getfield 102, 3) := by decide +kernel
theorem dX6_in_43 : decode cX6_in 43 = .ok (.bipush 30, 2) := by decide +kernel
theorem dX6_in_45 : decode cX6_in 45 = .ok (.iconst 2, 1) := by decide +kernel
theorem dX6_in_46 : decode cX6_in 46 = .ok (.iload_n 1, 1) := by decide +kernel
theorem dX6_in_47 : decode cX6_in 47 = .ok (.imul, 1) := by decide +kernel
theorem dX6_in_48 : decode cX6_in 48 = .ok (.iload_n 2, 1) := by decide +kernel
theorem dX6_in_49 : decode cX6_in 49 = .ok (.iadd, 1) := by decide +kernel
theorem dX6_in_50 : decode cX6_in 50 = .ok (.imul, 1) := by decide +kernel
theorem dX6_in_51 : decode cX6_in 51 = .ok (.iload_n 3, 1) := by decide +kernel
theorem dX6_in_52 : decode cX6_in 52 = .ok (.iadd, 1) := by decide +kernel
theorem dX6_in_53 : decode cX6_in 53 = .ok (.iaload, 1) := by decide +kernel
theorem dX6_in_54 : decode cX6_in 54 = .ok (.goto 5, 3) := by decide +kernel
theorem dX6_in_57 : decode cX6_in 57 = .ok (.bipush (-4), 2) := by decide +kernel
theorem dX6_in_59 : decode cX6_in 59 = .ok (.ireturn, 1) := by decide +kernel
theorem dX6_several_0 : decode cX6_several 0 = .ok (.iconst 0, 1) := by decide +kernel
theorem dX6_several_1 : decode cX6_several 1 = .ok (.istore_n 1, 1) := by decide +kernel
theorem dX6_several_2 : decode cX6_several 2 = .ok (.iconst 0, 1) := by decide +kernel
theorem dX6_several_3 : decode cX6_several 3 = .ok (.istore_n 2, 1) := by decide +kernel
theorem dX6_several_4 : decode cX6_several 4 = .ok (.iload_n 2, 1) := by decide +kernel
theorem dX6_several_5 : decode cX6_several 5 = .ok (.bipush 8, 2) := by decide +kernel
theorem dX6_several_7 : decode cX6_several 7 = .ok (.if_icmp .ge 65, 3) := by decide +kernel
theorem dX6_several_10 : decode cX6_several 10 = .ok (.aload_n 0, 1) := by decide +kernel
theorem dX6_several_11 : decode cX6_several 11 = .ok (.getfield 99, 3) := by decide +kernel
theorem dX6_several_14 : decode cX6_several 14 = .ok (.iconst 2, 1) := by decide +kernel
theorem dX6_several_15 : decode cX6_several 15 = .ok (.iload_n 2, 1) := by decide +kernel
theorem dX6_several_16 : decode cX6_several 16 = .ok (.imul, 1) := by decide +kernel
theorem dX6_several_17 : decode cX6_several 17 = .ok (.iaload, 1) := by decide +kernel
theorem dX6_several_18 : decode cX6_several 18 = .ok (.ifCond .le 7, 3) := by decide +kernel
theorem dX6_several_21 : decode cX6_several 21 = .ok (.iconst 1, 1) := by decide +kernel
theorem dX6_several_22 : decode cX6_several 22 = .ok (.goto 4, 3) := by decide +kernel
theorem dX6_several_25 : decode cX6_several 25 = .ok (.iconst 0, 1) := by decide +kernel
theorem dX6_several_26 : decode cX6_several 26 = .ok (.aload_n 0, 1) := by decide +kernel
theorem dX6_several_27 : decode cX6_several 27 = .ok (.getfield 99, 3) := by decide +kernel
theorem dX6_several_30 : decode cX6_several 30 = .ok (.iconst 2, 1) := by decide +kernel
theorem dX6_several_31 : decode cX6_several 31 = .ok (.iload_n 2, 1) := by decide +kernel
theorem dX6_several_32 : decode cX6_several 32 = .ok (.imul, 1) := by decide +kernel
theorem dX6_several_33 : decode cX6_several 33 = .ok (.iconst 1, 1) := by decide +kernel
theorem dX6_several_34 : decode cX6_several 34 = .ok (.iadd, 1) := by decide +kernel
theorem dX6_several_35 : decode cX6_several 35 = .ok (.iaload, 1) := by decide +kernel
theorem dX6_several_36 : decode cX6_several 36 = .ok (.ifCond .le 7, 3) := by decide +kernel
theorem dX6_several_39 : decode cX6_several 39 = .ok (.iconst 1, 1) := by decide +kernel
theorem dX6_several_40 : decode cX6_several 40 = .ok (.goto 4, 3) := by decide +kernel
theorem dX6_several_43 : decode cX6_several 43 = .ok (.iconst 0, 1) := by decide +kernel
theorem dX6_several_44 : decode cX6_several 44 = .ok (.iadd, 1) := by decide +kernel
theorem dX6_several_45 : decode cX6_several 45 = .ok (.istore_n 3, 1) := by decide +kernel
theorem dX6_several_46 : decode cX6_several 46 = .ok (.aload_n 0, 1) := by decide +kernel
theorem dX6_several_47 : decode cX6_several 47 = .ok (.getfield 20, 3) := by decide +kernel
theorem dX6_several_50 : decode cX6_several 50 = .ok (.iload_n 2, 1) := by decide +kernel
theorem dX6_several_51 : decode cX6_several 51 = .ok (.baload, 1) := by decide +kernel
theorem dX6_several_52 : decode cX6_several 52 = .ok (.ifCond .ne 12, 3) := by decide +kernel
theorem dX6_several_55 : decode cX6_several 55 = .ok (.iload_n 3, 1) := by decide +kernel
theorem dX6_several_56 : decode cX6_several 56 = .ok (.iload_n 1, 1) := by decide +kernel
theorem dX6_several_57 : decode cX6_several 57 = .ok (.if_icmp .le 7, 3) := by decide +kernel
theorem dX6_several_60 : decode cX6_several 60 = .ok (.iload_n 3, 1) := by decide +kernel
theorem dX6_several_61 : decode cX6_several 61 = .ok (.goto 4, 3) := by decide +kernel
theorem dX6_several_64 : decode cX6_several 64 = .ok (.iload_n 1, 1) := by decide +kernel
theorem dX6_several_65 : decode cX6_several 65 = .ok (.istore_n 1, 1) := by decide +kernel
theorem dX6_several_66 : decode cX6_several 66 = .ok (.iinc 2 1, 3) := by decide +kernel
theorem dX6_several_69 : decode cX6_several 69 = .ok (.goto (-65), 3) := by decide +kernel
theorem dX6_several_72 : decode cX6_several 72 = .ok (.iload_n 1, 1) := by decide +kernel
theorem dX6_several_73 : decode cX6_several 73 = .ok (.ireturn, 1) := by decide +kernel
theorem dX6_count_0 : decode cX6_count 0 = .ok (.iconst 0, 1) := by decide +kernel
theorem dX6_count_1 : decode cX6_count 1 = .ok (.istore_n 2, 1) := by decide +kernel
theorem dX6_count_2 : decode cX6_count 2 = .ok (.iconst 0, 1) := by decide +kernel
theorem dX6_count_3 : decode cX6_count 3 = .ok (.istore_n 3, 1) := by decide +kernel
theorem dX6_count_4 : decode cX6_count 4 = .ok (.iconst 0, 1) := by decide +kernel
theorem dX6_count_5 : decode cX6_count 5 = .ok (.istore 4, 2) := by decide +kernel
theorem dX6_count_7 : decode cX6_count 7 = .ok (.iconst 0, 1) := by decide +kernel
theorem dX6_count_8 : decode cX6_count 8 = .ok (.istore 5, 2) := by decide +kernel
theorem dX6_count_10 : decode cX6_count 10 = .ok (.iconst 0, 1) := by decide +kernel
theorem dX6_count_11 : decode cX6_count 11 = .ok (.istore 6, 2) := by decide +kernel
theorem dX6_count_13 : decode cX6_count 13 = .ok (.iload 6, 2) := by decide +kernel
theorem dX6_count_15 : decode cX6_count 15 = .ok (.aload_n 0, 1) := by decide +kernel
theorem dX6_count_16 : decode cX6_count 16 = .ok (.getfield 119, 3) := by decide +kernel
theorem dX6_count_19 : decode cX6_count 19 = .ok (.if_icmp .ge 99, 3) := by decide +kernel
theorem dX6_count_22 : decode cX6_count 22 = .ok (.iload_n 2, 1) := by decide +kernel
theorem dX6_count_23 : decode cX6_count 23 = .ok (.aload_n 0, 1) := by decide +kernel
theorem dX6_count_24 : decode cX6_count 24 = .ok (.getfield 48, 3) := by decide +kernel
theorem dX6_count_27 : decode cX6_count 27 = .ok (.iload 6, 2) := by decide +kernel
theorem dX6_count_29 : decode cX6_count 29 = .ok (.iaload, 1) := by decide +kernel
theorem dX6_count_30 : decode cX6_count 30 = .ok (.bipush 8, 2) := by decide +kernel
theorem dX6_count_32 : decode cX6_count 32 = .ok (.if_icmp .ne 7, 3) := by decide +kernel
theorem dX6_count_35 : decode cX6_count 35 = .ok (.iconst 1, 1) := by decide +kernel
theorem dX6_count_36 : decode cX6_count 36 = .ok (.goto 4, 3) := by decide +kernel
theorem dX6_count_39 : decode cX6_count 39 = .ok (.iconst 0, 1) := by decide +kernel
theorem dX6_count_40 : decode cX6_count 40 = .ok (.iadd, 1) := by decide +kernel
theorem dX6_count_41 : decode cX6_count 41 = .ok (.istore_n 2, 1) := by decide +kernel
theorem dX6_count_42 : decode cX6_count 42 = .ok (.iload_n 3, 1) := by decide +kernel
theorem dX6_count_43 : decode cX6_count 43 = .ok (.aload_n 0, 1) := by decide +kernel
theorem dX6_count_44 : decode cX6_count 44 = .ok (.getfield 57, 3) := by decide +kernel
theorem dX6_count_47 : decode cX6_count 47 = .ok (.iload 6, 2) := by decide +kernel
theorem dX6_count_49 : decode cX6_count 49 = .ok (.baload, 1) := by decide +kernel
theorem dX6_count_50 : decode cX6_count 50 = .ok (.ifCond .eq 7, 3) := by decide +kernel
theorem dX6_count_53 : decode cX6_count 53 = .ok (.iconst 1, 1) := by decide +kernel
theorem dX6_count_54 : decode cX6_count 54 = .ok (.goto 4, 3) := by decide +kernel
theorem dX6_count_57 : decode cX6_count 57 = .ok (.iconst 0, 1) := by decide +kernel
theorem dX6_count_58 : decode cX6_count 58 = .ok (.iadd, 1) := by decide +kernel
theorem dX6_count_59 : decode cX6_count 59 = .ok (.istore_n 3, 1) := by decide +kernel
theorem dX6_count_60 : decode cX6_count 60 = .ok (.iload 4, 2) := by decide +kernel
theorem dX6_count_62 : decode cX6_count 62 = .ok (.aload_n 0, 1) := by decide +kernel
theorem dX6_count_63 : decode cX6_count 63 = .ok (.getfield 54, 3) := by decide +kernel
theorem dX6_count_66 : decode cX6_count 66 = .ok (.iload 6, 2) := by decide +kernel
theorem dX6_count_68 : decode cX6_count 68 = .ok (.baload, 1) := by decide +kernel
theorem dX6_count_69 : decode cX6_count 69 = .ok (.ifCond .eq 7, 3) := by decide +kernel
theorem dX6_count_72 : decode cX6_count 72 = .ok (.iconst 1, 1) := by decide +kernel
theorem dX6_count_73 : decode cX6_count 73 = .ok (.goto 4, 3) := by decide +kernel
theorem dX6_count_76 : decode cX6_count 76 = .ok (.iconst 0, 1) := by decide +kernel
theorem dX6_count_77 : decode cX6_count 77 = .ok (.iadd, 1) := by decide +kernel
theorem dX6_count_78 : decode cX6_count 78 = .ok (.istore 4, 2) := by decide +kernel
theorem dX6_count_80 : decode cX6_count 80 = .ok (.iload 5, 2) := by decide +kernel
theorem dX6_count_82 : decode cX6_count 82 = .ok (.aload_n 0, 1) := by decide +kernel
theorem dX6_count_83 : decode cX6_count 83 = .ok (.getfield 48, 3) := by decide +kernel
theorem dX6_count_86 : decode cX6_count 86 = .ok (.iload 6, 2) := by decide +kernel
theorem dX6_count_88 : decode cX6_count 88 = .ok (.iaload, 1) := by decide +kernel
theorem dX6_count_89 : decode cX6_count 89 = .ok (.ifCond .lt 19, 3) := by decide +kernel
theorem dX6_count_92 : decode cX6_count 92 = .ok (.aload_n 0, 1) := by decide +kernel
theorem dX6_count_93 : decode cX6_count 93 = .ok (.getfield 48, 3) := by decide +kernel
theorem dX6_count_96 : decode cX6_count 96 = .ok (.iload 6, 2) := by decide +kernel
theorem dX6_count_98 : decode cX6_count 98 = .ok (.iaload, 1) := by decide +kernel
theorem dX6_count_99 : decode cX6_count 99 = .ok (.bipush 8, 2) := by decide +kernel
theorem dX6_count_101 : decode cX6_count 101 = .ok (.if_icmp .ge 7, 3) := by decide +kernel
theorem dX6_count_104 : decode cX6_count 104 = .ok (.iconst 1, 1) := by decide +kernel
theorem dX6_count_105 : decode cX6_count 105 = .ok (.goto 4, 3) := by decide +kernel
theorem dX6_count_108 : decode cX6_count 108 = .ok (.iconst 0, 1) := by decide +kernel
theorem dX6_count_109 : decode cX6_count 109 = .ok (.iadd, 1) := by decide +kernel
theorem dX6_count_110 : decode cX6_count 110 = .ok (.istore 5, 2) := by decide +kernel
theorem dX6_count_112 : decode cX6_count 112 = .ok (.iinc 6 1, 3) := by decide +kernel
theorem dX6_count_115 : decode cX6_count 115 = .ok (.goto (-102), 3) := by decide +kernel
theorem dX6_count_118 : decode cX6_count 118 = .ok (.iload_n 1, 1) := by decide +kernel
theorem dX6_count_119 : decode cX6_count 119 = .ok (.tableswitch 75 0 7 #[45, 50, 55, 60, 62, 64, 67, 70], 45) := by decide +kernel
theorem dX6_count_164 : decode cX6_count 164 = .ok (.aload_n 0, 1) := by decide +kernel
theorem dX6_count_165 : decode cX6_count 165 = .ok (.getfield 119, 3) := by decide +kernel
theorem dX6_count_168 : decode cX6_count 168 = .ok (.ireturn, 1) := by decide +kernel
theorem dX6_count_169 : decode cX6_count 169 = .ok (.aload_n 0, 1) := by decide +kernel
theorem dX6_count_170 : decode cX6_count 170 = .ok (.getfield 122, 3) := by decide +kernel
theorem dX6_count_173 : decode cX6_count 173 = .ok (.ireturn, 1) := by decide +kernel
theorem dX6_count_174 : decode cX6_count 174 = .ok (.aload_n 0, 1) := by decide +kernel
theorem dX6_count_175 : decode cX6_count 175 = .ok (.getfield 112, 3) := by decide +kernel
theorem dX6_count_178 : decode cX6_count 178 = .ok (.ireturn, 1) := by decide +kernel
theorem dX6_count_179 : decode cX6_count 179 = .ok (.iload_n 2, 1) := by decide +kernel
theorem dX6_count_180 : decode cX6_count 180 = .ok (.ireturn, 1) := by decide +kernel
theorem dX6_count_181 : decode cX6_count 181 = .ok (.iload_n 3, 1) := by decide +kernel
theorem dX6_count_182 : decode cX6_count 182 = .ok (.ireturn, 1) := by decide +kernel
theorem dX6_count_183 : decode cX6_count 183 = .ok (.iload 4, 2) := by decide +kernel
theorem dX6_count_185 : decode cX6_count 185 = .ok (.ireturn, 1) := by decide +kernel
theorem dX6_count_186 : decode cX6_count 186 = .ok (.iload 5, 2) := by decide +kernel
theorem dX6_count_188 : decode cX6_count 188 = .ok (.ireturn, 1) := by decide +kernel
theorem dX6_count_189 : decode cX6_count 189 = .ok (.aload_n 0, 1) := by decide +kernel
theorem dX6_count_190 : decode cX6_count 190 = .ok (.invokevirtual 171, 3) := by decide +kernel
theorem dX6_count_193 : decode cX6_count 193 = .ok (.ireturn, 1) := by decide +kernel
theorem dX6_count_194 : decode cX6_count 194 = .ok (.iconst (-1), 1) := by decide +kernel
theorem dX6_count_195 : decode cX6_count 195 = .ok (.ireturn, 1) := by decide +kernel
end
section
theorem dL_law_0 : decode cL_law 0 = .ok (.new 7, 3) := by decide +kernel
theorem dL_law_3 : decode cL_law 3 = .ok (.dup, 1) := by decide +kernel
theorem dL_law_4 : decode cL_law 4 = .ok (.invokespecial 9, 3) := by decide +kernel
theorem dL_law_7 : decode cL_law 7 = .ok (.astore_n 1, 1) := by decide +kernel
theorem dL_law_8 : decode cL_law 8 = .ok (.new 10, 3) := by decide +kernel
theorem dL_law_11 : decode cL_law 11 = .ok (.dup, 1) := by decide +kernel
theorem dL_law_12 : decode cL_law 12 = .ok (.invokespecial 12, 3) := by decide +kernel
theorem dL_law_15 : decode cL_law 15 = .ok (.astore_n 2, 1) := by decide +kernel
theorem dL_law_16 : decode cL_law 16 = .ok (.iconst 0, 1) := by decide +kernel
theorem dL_law_17 : decode cL_law 17 = .ok (.istore_n 3, 1) := by decide +kernel
theorem dL_law_18 : decode cL_law 18 = .ok (.iload_n 3, 1) := by decide +kernel
theorem dL_law_19 : decode cL_law 19 = .ok (.aload_n 0, 1) := by decide +kernel
theorem dL_law_20 : decode cL_law 20 = .ok (.arraylength, 1) := by decide +kernel
theorem dL_law_21 : decode cL_law 21 = .ok (.bipush 7, 2) := by decide +kernel
theorem dL_law_23 : decode cL_law 23 = .ok (.isub, 1) := by decide +kernel
theorem dL_law_24 : decode cL_law 24 = .ok (.if_icmp .gt 648, 3) := by decide +kernel
theorem dL_law_27 : decode cL_law 27 = .ok (.aload_n 0, 1) := by decide +kernel
theorem dL_law_28 : decode cL_law 28 = .ok (.iload_n 3, 1) := by decide +kernel
theorem dL_law_29 : decode cL_law 29 = .ok (.iaload, 1) := by decide +kernel
theorem dL_law_30 : decode cL_law 30 = .ok (.bipush 15, 2) := by decide +kernel
theorem dL_law_32 : decode cL_law 32 = .ok (.iand, 1) := by decide +kernel
theorem dL_law_33 : decode cL_law 33 = .ok (.tableswitch 633 0 13 #[71, 140, 173, 206, 239, 346, 379, 412, 445, 468, 501, 534, 567, 610], 71) := by decide +kernel
theorem dL_law_104 : decode cL_law 104 = .ok (.aload_n 1, 1) := by decide +kernel
theorem dL_law_105 : decode cL_law 105 = .ok (.aload_n 0, 1) := by decide +kernel
theorem dL_law_106 : decode cL_law 106 = .ok (.iload_n 3, 1) := by decide +kernel
theorem dL_law_107 : decode cL_law 107 = .ok (.iconst 1, 1) := by decide +kernel
theorem dL_law_108 : decode cL_law 108 = .ok (.iadd, 1) := by decide +kernel
theorem dL_law_109 : decode cL_law 109 = .ok (.iaload, 1) := by decide +kernel
theorem dL_law_110 : decode cL_law 110 = .ok (.aload_n 0, 1) := by decide +kernel
theorem dL_law_111 : decode cL_law 111 = .ok (.iload_n 3, 1) := by decide +kernel
theorem dL_law_112 : decode cL_law 112 = .ok (.iconst 2, 1) := by decide +kernel
theorem dL_law_113 : decode cL_law 113 = .ok (.iadd, 1) := by decide +kernel
theorem dL_law_114 : decode cL_law 114 = .ok (.iaload, 1) := by decide +kernel
theorem dL_law_115 : decode cL_law 115 = .ok (.aload_n 0, 1) := by decide +kernel
theorem dL_law_116 : decode cL_law 116 = .ok (.iload_n 3, 1) := by decide +kernel
theorem dL_law_117 : decode cL_law 117 = .ok (.iconst 3, 1) := by decide +kernel
theorem dL_law_118 : decode cL_law 118 = .ok (.iadd, 1) := by decide +kernel
theorem dL_law_119 : decode cL_law 119 = .ok (.iaload, 1) := by decide +kernel
theorem dL_law_120 : decode cL_law 120 = .ok (.aload_n 0, 1) := by decide +kernel
theorem dL_law_121 : decode cL_law 121 = .ok (.iload_n 3, 1) := by decide +kernel
theorem dL_law_122 : decode cL_law 122 = .ok (.iconst 4, 1) := by decide +kernel
theorem dL_law_123 : decode cL_law 123 = .ok (.iadd, 1) := by decide +kernel
theorem dL_law_124 : decode cL_law 124 = .ok (.iaload, 1) := by decide +kernel
theorem dL_law_125 : decode cL_law 125 = .ok (.ifCond .eq 7, 3) := by decide +kernel
theorem dL_law_128 : decode cL_law 128 = .ok (.iconst 1, 1) := by decide +kernel
theorem dL_law_129 : decode cL_law 129 = .ok (.goto 4, 3) := by decide +kernel
theorem dL_law_132 : decode cL_law 132 = .ok (.iconst 0, 1) := by decide +kernel
theorem dL_law_133 : decode cL_law 133 = .ok (.invokevirtual 13, 3) := by decide +kernel
theorem dL_law_136 : decode cL_law 136 = .ok (.aload_n 2, 1) := by decide +kernel
theorem dL_law_137 : decode cL_law 137 = .ok (.aload_n 0, 1) := by decide +kernel
theorem dL_law_138 : decode cL_law 138 = .ok (.iload_n 3, 1) := by decide +kernel
theorem dL_law_139 : decode cL_law 139 = .ok (.iconst 1, 1) := by decide +kernel
theorem dL_law_140 : decode cL_law 140 = .ok (.iadd, 1) := by decide +kernel
theorem dL_law_141 : decode cL_law 141 = .ok (.iaload, 1) := by decide +kernel
theorem dL_law_142 : decode cL_law 142 = .ok (.aload_n 0, 1) := by decide +kernel
theorem dL_law_143 : decode cL_law 143 = .ok (.iload_n 3, 1) := by decide +kernel
theorem dL_law_144 : decode cL_law 144 = .ok (.iconst 2, 1) := by decide +kernel
theorem dL_law_145 : decode cL_law 145 = .ok (.iadd, 1) := by decide +kernel
theorem dL_law_146 : decode cL_law 146 = .ok (.iaload, 1) := by decide +kernel
theorem dL_law_147 : decode cL_law 147 = .ok (.aload_n 0, 1) := by decide +kernel
theorem dL_law_148 : decode cL_law 148 = .ok (.iload_n 3, 1) := by decide +kernel
theorem dL_law_149 : decode cL_law 149 = .ok (.iconst 3, 1) := by decide +kernel
theorem dL_law_150 : decode cL_law 150 = .ok (.iadd, 1) := by decide +kernel
theorem dL_law_151 : decode cL_law 151 = .ok (.iaload, 1) := by decide +kernel
theorem dL_law_152 : decode cL_law 152 = .ok (.aload_n 0, 1) := by decide +kernel
theorem dL_law_153 : decode cL_law 153 = .ok (.iload_n 3, 1) := by decide +kernel
theorem dL_law_154 : decode cL_law 154 = .ok (.iconst 4, 1) := by decide +kernel
theorem dL_law_155 : decode cL_law 155 = .ok (.iadd, 1) := by decide +kernel
theorem dL_law_156 : decode cL_law 156 = .ok (.iaload, 1) := by decide +kernel
theorem dL_law_157 : decode cL_law 157 = .ok (.ifCond .eq 7, 3) := by decide +kernel
theorem dL_law_160 : decode cL_law 160 = .ok (.iconst 1, 1) := by decide +kernel
theorem dL_law_161 : decode cL_law 161 = .ok (.goto 4, 3) := by decide +kernel
theorem dL_law_164 : decode cL_law 164 = .ok (.iconst 0, 1) := by decide +kernel
theorem dL_law_165 : decode cL_law 165 = .ok (.invokevirtual 17, 3) := by decide +kernel
theorem dL_law_168 : decode cL_law 168 = .ok (.if_icmp .eq 498, 3) := by decide +kernel
theorem dL_law_171 : decode cL_law 171 = .ok (.iconst 0, 1) := by decide +kernel
theorem dL_law_172 : decode cL_law 172 = .ok (.ireturn, 1) := by decide +kernel
theorem dL_law_173 : decode cL_law 173 = .ok (.aload_n 1, 1) := by decide +kernel
theorem dL_law_174 : decode cL_law 174 = .ok (.aload_n 0, 1) := by decide +kernel
theorem dL_law_175 : decode cL_law 175 = .ok (.iload_n 3, 1) := by decide +kernel
theorem dL_law_176 : decode cL_law 176 = .ok (.iconst 1, 1) := by decide +kernel
theorem dL_law_177 : decode cL_law 177 = .ok (.iadd, 1) := by decide +kernel
theorem dL_law_178 : decode cL_law 178 = .ok (.iaload, 1) := by decide +kernel
theorem dL_law_179 : decode cL_law 179 = .ok (.aload_n 0, 1) := by decide +kernel
theorem dL_law_180 : decode cL_law 180 = .ok (.iload_n 3, 1) := by decide +kernel
theorem dL_law_181 : decode cL_law 181 = .ok (.iconst 2, 1) := by decide +kernel
theorem dL_law_182 : decode cL_law 182 = .ok (.iadd, 1) := by decide +kernel
theorem dL_law_183 : decode cL_law 183 = .ok (.iaload, 1) := by decide +kernel
theorem dL_law_184 : decode cL_law 184 = .ok (.invokevirtual 18, 3) := by decide +kernel
theorem dL_law_187 : decode cL_law 187 = .ok (.aload_n 2, 1) := by decide +kernel
theorem dL_law_188 : decode cL_law 188 = .ok (.aload_n 0, 1) := by decide +kernel
theorem dL_law_189 : decode cL_law 189 = .ok (.iload_n 3, 1) := by decide +kernel
theorem dL_law_190 : decode cL_law 190 = .ok (.iconst 1, 1) := by decide +kernel
theorem dL_law_191 : decode cL_law 191 = .ok (.iadd, 1) := by decide +kernel
theorem dL_law_192 : decode cL_law 192 = .ok (.iaload, 1) := by decide +kernel
theorem dL_law_193 : decode cL_law 193 = .ok (.aload_n 0, 1) := by decide +kernel
theorem dL_law_194 : decode cL_law 194 = .ok (.iload_n 3, 1) := by decide +kernel
theorem dL_law_195 : decode cL_law 195 = .ok (.iconst 2, 1) := by decide +kernel
theorem dL_law_196 : decode cL_law 196 = .ok (.iadd, 1) := by decide +kernel
theorem dL_law_197 : decode cL_law 197 = .ok (.iaload, 1) := by decide +kernel
theorem dL_law_198 : decode cL_law 198 = .ok (.invokevirtual 22, 3) := by decide +kernel
theorem dL_law_201 : decode cL_law 201 = .ok (.if_icmp .eq 465, 3) := by decide +kernel
theorem dL_law_204 : decode cL_law 204 = .ok (.iconst 0, 1) := by decide +kernel
theorem dL_law_205 : decode cL_law 205 = .ok (.ireturn, 1) := by decide +kernel
theorem dL_law_206 : decode cL_law 206 = .ok (.aload_n 1, 1) := by decide +kernel
theorem dL_law_207 : decode cL_law 207 = .ok (.aload_n 0, 1) := by decide +kernel
theorem dL_law_208 : decode cL_law 208 = .ok (.iload_n 3, 1) := by decide +kernel
theorem dL_law_209 : decode cL_law 209 = .ok (.iconst 1, 1) := by decide +kernel
theorem dL_law_210 : decode cL_law 210 = .ok (.iadd, 1) := by decide +kernel
theorem dL_law_211 : decode cL_law 211 = .ok (.iaload, 1) := by decide +kernel
theorem dL_law_212 : decode cL_law 212 = .ok (.aload_n 0, 1) := by decide +kernel
theorem dL_law_213 : decode cL_law 213 = .ok (.iload_n 3, 1) := by decide +kernel
theorem dL_law_214 : decode cL_law 214 = .ok (.iconst 2, 1) := by decide +kernel
theorem dL_law_215 : decode cL_law 215 = .ok (.iadd, 1) := by decide +kernel
theorem dL_law_216 : decode cL_law 216 = .ok (.iaload, 1) := by decide +kernel
theorem dL_law_217 : decode cL_law 217 = .ok (.invokevirtual 23, 3) := by decide +kernel
theorem dL_law_220 : decode cL_law 220 = .ok (.aload_n 2, 1) := by decide +kernel
theorem dL_law_221 : decode cL_law 221 = .ok (.aload_n 0, 1) := by decide +kernel
theorem dL_law_222 : decode cL_law 222 = .ok (.iload_n 3, 1) := by decide +kernel
theorem dL_law_223 : decode cL_law 223 = .ok (.iconst 1, 1) := by decide +kernel
theorem dL_law_224 : decode cL_law 224 = .ok (.iadd, 1) := by decide +kernel
theorem dL_law_225 : decode cL_law 225 = .ok (.iaload, 1) := by decide +kernel
theorem dL_law_226 : decode cL_law 226 = .ok (.aload_n 0, 1) := by decide +kernel
theorem dL_law_227 : decode cL_law 227 = .ok (.iload_n 3, 1) := by decide +kernel
theorem dL_law_228 : decode cL_law 228 = .ok (.iconst 2, 1) := by decide +kernel
theorem dL_law_229 : decode cL_law 229 = .ok (.iadd, 1) := by decide +kernel
theorem dL_law_230 : decode cL_law 230 = .ok (.iaload, 1) := by decide +kernel
theorem dL_law_231 : decode cL_law 231 = .ok (.invokevirtual 26, 3) := by decide +kernel
theorem dL_law_234 : decode cL_law 234 = .ok (.if_icmp .eq 432, 3) := by decide +kernel
theorem dL_law_237 : decode cL_law 237 = .ok (.iconst 0, 1) := by decide +kernel
theorem dL_law_238 : decode cL_law 238 = .ok (.ireturn, 1) := by decide +kernel
theorem dL_law_239 : decode cL_law 239 = .ok (.aload_n 1, 1) := by decide +kernel
theorem dL_law_240 : decode cL_law 240 = .ok (.aload_n 0, 1) := by decide +kernel
theorem dL_law_241 : decode cL_law 241 = .ok (.iload_n 3, 1) := by decide +kernel
theorem dL_law_242 : decode cL_law 242 = .ok (.iconst 1, 1) := by decide +kernel
theorem dL_law_243 : decode cL_law 243 = .ok (.iadd, 1) := by decide +kernel
theorem dL_law_244 : decode cL_law 244 = .ok (.iaload, 1) := by decide +kernel
theorem dL_law_245 : decode cL_law 245 = .ok (.aload_n 0, 1) := by decide +kernel
theorem dL_law_246 : decode cL_law 246 = .ok (.iload_n 3, 1) := by decide +kernel
theorem dL_law_247 : decode cL_law 247 = .ok (.iconst 2, 1) := by decide +kernel
theorem dL_law_248 : decode cL_law 248 = .ok (.iadd, 1) := by decide +kernel
theorem dL_law_249 : decode cL_law 249 = .ok (.iaload, 1) := by decide +kernel
theorem dL_law_250 : decode cL_law 250 = .ok (.invokevirtual 27, 3) := by decide +kernel
theorem dL_law_253 : decode cL_law 253 = .ok (.aload_n 2, 1) := by decide +kernel
theorem dL_law_254 : decode cL_law 254 = .ok (.aload_n 0, 1) := by decide +kernel
theorem dL_law_255 : decode cL_law 255 = .ok (.iload_n 3, 1) := by decide +kernel
theorem dL_law_256 : decode cL_law 256 = .ok (.iconst 1, 1) := by decide +kernel
theorem dL_law_257 : decode cL_law 257 = .ok (.iadd, 1) := by decide +kernel
theorem dL_law_258 : decode cL_law 258 = .ok (.iaload, 1) := by decide +kernel
theorem dL_law_259 : decode cL_law 259 = .ok (.aload_n 0, 1) := by decide +kernel
theorem dL_law_260 : decode cL_law 260 = .ok (.iload_n 3, 1) := by decide +kernel
theorem dL_law_261 : decode cL_law 261 = .ok (.iconst 2, 1) := by decide +kernel
theorem dL_law_262 : decode cL_law 262 = .ok (.iadd, 1) := by decide +kernel
theorem dL_law_263 : decode cL_law 263 = .ok (.iaload, 1) := by decide +kernel
theorem dL_law_264 : decode cL_law 264 = .ok (.invokevirtual 30, 3) := by decide +kernel
theorem dL_law_267 : decode cL_law 267 = .ok (.if_icmp .eq 399, 3) := by decide +kernel
theorem dL_law_270 : decode cL_law 270 = .ok (.iconst 0, 1) := by decide +kernel
theorem dL_law_271 : decode cL_law 271 = .ok (.ireturn, 1) := by decide +kernel
theorem dL_law_272 : decode cL_law 272 = .ok (.aload_n 1, 1) := by decide +kernel
theorem dL_law_273 : decode cL_law 273 = .ok (.aload_n 0, 1) := by decide +kernel
theorem dL_law_274 : decode cL_law 274 = .ok (.iload_n 3, 1) := by decide +kernel
theorem dL_law_275 : decode cL_law 275 = .ok (.iconst 1, 1) := by decide +kernel
theorem dL_law_276 : decode cL_law 276 = .ok (.iadd, 1) := by decide +kernel
theorem dL_law_277 : decode cL_law 277 = .ok (.iaload, 1) := by decide +kernel
theorem dL_law_278 : decode cL_law 278 = .ok (.aload_n 0, 1) := by decide +kernel
theorem dL_law_279 : decode cL_law 279 = .ok (.iload_n 3, 1) := by decide +kernel
theorem dL_law_280 : decode cL_law 280 = .ok (.iconst 2, 1) := by decide +kernel
theorem dL_law_281 : decode cL_law 281 = .ok (.iadd, 1) := by decide +kernel
theorem dL_law_282 : decode cL_law 282 = .ok (.iaload, 1) := by decide +kernel
theorem dL_law_283 : decode cL_law 283 = .ok (.aload_n 0, 1) := by decide +kernel
theorem dL_law_284 : decode cL_law 284 = .ok (.iload_n 3, 1) := by decide +kernel
theorem dL_law_285 : decode cL_law 285 = .ok (.iconst 3, 1) := by decide +kernel
theorem dL_law_286 : decode cL_law 286 = .ok (.iadd, 1) := by decide +kernel
theorem dL_law_287 : decode cL_law 287 = .ok (.iaload, 1) := by decide +kernel
theorem dL_law_288 : decode cL_law 288 = .ok (.ifCond .eq 7, 3) := by decide +kernel
theorem dL_law_291 : decode cL_law 291 = .ok (.iconst 1, 1) := by decide +kernel
theorem dL_law_292 : decode cL_law 292 = .ok (.goto 4, 3) := by decide +kernel
theorem dL_law_295 : decode cL_law 295 = .ok (.iconst 0, 1) := by decide +kernel
theorem dL_law_296 : decode cL_law 296 = .ok (.aload_n 0, 1) := by decide +kernel
theorem dL_law_297 : decode cL_law 297 = .ok (.iload_n 3, 1) := by decide +kernel
theorem dL_law_298 : decode cL_law 298 = .ok (.iconst 4, 1) := by decide +kernel
theorem dL_law_299 : decode cL_law 299 = .ok (.iadd, 1) := by decide +kernel
theorem dL_law_300 : decode cL_law 300 = .ok (.iaload, 1) := by decide +kernel
theorem dL_law_301 : decode cL_law 301 = .ok (.aload_n 0, 1) := by decide +kernel
theorem dL_law_302 : decode cL_law 302 = .ok (.iload_n 3, 1) := by decide +kernel
theorem dL_law_303 : decode cL_law 303 = .ok (.iconst 5, 1) := by decide +kernel
theorem dL_law_304 : decode cL_law 304 = .ok (.iadd, 1) := by decide +kernel
theorem dL_law_305 : decode cL_law 305 = .ok (.iaload, 1) := by decide +kernel
theorem dL_law_306 : decode cL_law 306 = .ok (.ifCond .eq 7, 3) := by decide +kernel
theorem dL_law_309 : decode cL_law 309 = .ok (.iconst 1, 1) := by decide +kernel
theorem dL_law_310 : decode cL_law 310 = .ok (.goto 4, 3) := by decide +kernel
theorem dL_law_313 : decode cL_law 313 = .ok (.iconst 0, 1) := by decide +kernel
theorem dL_law_314 : decode cL_law 314 = .ok (.aload_n 0, 1) := by decide +kernel
theorem dL_law_315 : decode cL_law 315 = .ok (.iload_n 3, 1) := by decide +kernel
theorem dL_law_316 : decode cL_law 316 = .ok (.bipush 6, 2) := by decide +kernel
theorem dL_law_318 : decode cL_law 318 = .ok (.iadd, 1) := by decide +kernel
theorem dL_law_319 : decode cL_law 319 = .ok (.iaload, 1) := by decide +kernel
theorem dL_law_320 : decode cL_law 320 = .ok (.invokevirtual 31, 3) := by decide +kernel
theorem dL_law_323 : decode cL_law 323 = .ok (.aload_n 2, 1) := by decide +kernel
theorem dL_law_324 : decode cL_law 324 = .ok (.aload_n 0, 1) := by decide +kernel
theorem dL_law_325 : decode cL_law 325 = .ok (.iload_n 3, 1) := by decide +kernel
theorem dL_law_326 : decode cL_law 326 = .ok (.iconst 1, 1) := by decide +kernel
theorem dL_law_327 : decode cL_law 327 = .ok (.iadd, 1) := by decide +kernel
theorem dL_law_328 : decode cL_law 328 = .ok (.iaload, 1) := by decide +kernel
theorem dL_law_329 : decode cL_law 329 = .ok (.aload_n 0, 1) := by decide +kernel
theorem dL_law_330 : decode cL_law 330 = .ok (.iload_n 3, 1) := by decide +kernel
theorem dL_law_331 : decode cL_law 331 = .ok (.iconst 2, 1) := by decide +kernel
theorem dL_law_332 : decode cL_law 332 = .ok (.iadd, 1) := by decide +kernel
theorem dL_law_333 : decode cL_law 333 = .ok (.iaload, 1) := by decide +kernel
theorem dL_law_334 : decode cL_law 334 = .ok (.aload_n 0, 1) := by decide +kernel
theorem dL_law_335 : decode cL_law 335 = .ok (.iload_n 3, 1) := by decide +kernel
theorem dL_law_336 : decode cL_law 336 = .ok (.iconst 3, 1) := by decide +kernel
theorem dL_law_337 : decode cL_law 337 = .ok (.iadd, 1) := by decide +kernel
theorem dL_law_338 : decode cL_law 338 = .ok (.iaload, 1) := by decide +kernel
theorem dL_law_339 : decode cL_law 339 = .ok (.ifCond .eq 7, 3) := by decide +kernel
theorem dL_law_342 : decode cL_law 342 = .ok (.iconst 1, 1) := by decide +kernel
theorem dL_law_343 : decode cL_law 343 = .ok (.goto 4, 3) := by decide +kernel
theorem dL_law_346 : decode cL_law 346 = .ok (.iconst 0, 1) := by decide +kernel
theorem dL_law_347 : decode cL_law 347 = .ok (.aload_n 0, 1) := by decide +kernel
theorem dL_law_348 : decode cL_law 348 = .ok (.iload_n 3, 1) := by decide +kernel
theorem dL_law_349 : decode cL_law 349 = .ok (.iconst 4, 1) := by decide +kernel
theorem dL_law_350 : decode cL_law 350 = .ok (.iadd, 1) := by decide +kernel
theorem dL_law_351 : decode cL_law 351 = .ok (.iaload, 1) := by decide +kernel
theorem dL_law_352 : decode cL_law 352 = .ok (.aload_n 0, 1) := by decide +kernel
theorem dL_law_353 : decode cL_law 353 = .ok (.iload_n 3, 1) := by decide +kernel
theorem dL_law_354 : decode cL_law 354 = .ok (.iconst 5, 1) := by decide +kernel
theorem dL_law_355 : decode cL_law 355 = .ok (.iadd, 1) := by decide +kernel
theorem dL_law_356 : decode cL_law 356 = .ok (.iaload, 1) := by decide +kernel
theorem dL_law_357 : decode cL_law 357 = .ok (.ifCond .eq 7, 3) := by decide +kernel
theorem dL_law_360 : decode cL_law 360 = .ok (.iconst 1, 1) := by decide +kernel
theorem dL_law_361 : decode cL_law 361 = .ok (.goto 4, 3) := by decide +kernel
theorem dL_law_364 : decode cL_law 364 = .ok (.iconst 0, 1) := by decide +kernel
theorem dL_law_365 : decode cL_law 365 = .ok (.aload_n 0, 1) := by decide +kernel
theorem dL_law_366 : decode cL_law 366 = .ok (.iload_n 3, 1) := by decide +kernel
theorem dL_law_367 : decode cL_law 367 = .ok (.bipush 6, 2) := by decide +kernel
theorem dL_law_369 : decode cL_law 369 = .ok (.iadd, 1) := by decide +kernel
theorem dL_law_370 : decode cL_law 370 = .ok (.iaload, 1) := by decide +kernel
theorem dL_law_371 : decode cL_law 371 = .ok (.invokevirtual 35, 3) := by decide +kernel
theorem dL_law_374 : decode cL_law 374 = .ok (.if_icmp .eq 292, 3) := by decide +kernel
theorem dL_law_377 : decode cL_law 377 = .ok (.iconst 0, 1) := by decide +kernel
theorem dL_law_378 : decode cL_law 378 = .ok (.ireturn, 1) := by decide +kernel
theorem dL_law_379 : decode cL_law 379 = .ok (.aload_n 1, 1) := by decide +kernel
theorem dL_law_380 : decode cL_law 380 = .ok (.aload_n 0, 1) := by decide +kernel
theorem dL_law_381 : decode cL_law 381 = .ok (.iload_n 3, 1) := by decide +kernel
theorem dL_law_382 : decode cL_law 382 = .ok (.iconst 1, 1) := by decide +kernel
theorem dL_law_383 : decode cL_law 383 = .ok (.iadd, 1) := by decide +kernel
theorem dL_law_384 : decode cL_law 384 = .ok (.iaload, 1) := by decide +kernel
theorem dL_law_385 : decode cL_law 385 = .ok (.aload_n 0, 1) := by decide +kernel
theorem dL_law_386 : decode cL_law 386 = .ok (.iload_n 3, 1) := by decide +kernel
theorem dL_law_387 : decode cL_law 387 = .ok (.iconst 2, 1) := by decide +kernel
theorem dL_law_388 : decode cL_law 388 = .ok (.iadd, 1) := by decide +kernel
theorem dL_law_389 : decode cL_law 389 = .ok (.iaload, 1) := by decide +kernel
theorem dL_law_390 : decode cL_law 390 = .ok (.invokevirtual 36, 3) := by decide +kernel
theorem dL_law_393 : decode cL_law 393 = .ok (.aload_n 2, 1) := by decide +kernel
theorem dL_law_394 : decode cL_law 394 = .ok (.aload_n 0, 1) := by decide +kernel
theorem dL_law_395 : decode cL_law 395 = .ok (.iload_n 3, 1) := by decide +kernel
theorem dL_law_396 : decode cL_law 396 = .ok (.iconst 1, 1) := by decide +kernel
theorem dL_law_397 : decode cL_law 397 = .ok (.iadd, 1) := by decide +kernel
theorem dL_law_398 : decode cL_law 398 = .ok (.iaload, 1) := by decide +kernel
theorem dL_law_399 : decode cL_law 399 = .ok (.aload_n 0, 1) := by decide +kernel
theorem dL_law_400 : decode cL_law 400 = .ok (.iload_n 3, 1) := by decide +kernel
theorem dL_law_401 : decode cL_law 401 = .ok (.iconst 2, 1) := by decide +kernel
theorem dL_law_402 : decode cL_law 402 = .ok (.iadd, 1) := by decide +kernel
theorem dL_law_403 : decode cL_law 403 = .ok (.iaload, 1) := by decide +kernel
theorem dL_law_404 : decode cL_law 404 = .ok (.invokevirtual 39, 3) := by decide +kernel
theorem dL_law_407 : decode cL_law 407 = .ok (.if_icmp .eq 259, 3) := by decide +kernel
theorem dL_law_410 : decode cL_law 410 = .ok (.iconst 0, 1) := by decide +kernel
theorem dL_law_411 : decode cL_law 411 = .ok (.ireturn, 1) := by decide +kernel
theorem dL_law_412 : decode cL_law 412 = .ok (.aload_n 1, 1) := by decide +kernel
theorem dL_law_413 : decode cL_law 413 = .ok (.aload_n 0, 1) := by decide +kernel
theorem dL_law_414 : decode cL_law 414 = .ok (.iload_n 3, 1) := by decide +kernel
theorem dL_law_415 : decode cL_law 415 = .ok (.iconst 1, 1) := by decide +kernel
theorem dL_law_416 : decode cL_law 416 = .ok (.iadd, 1) := by decide +kernel
theorem dL_law_417 : decode cL_law 417 = .ok (.iaload, 1) := by decide +kernel
theorem dL_law_418 : decode cL_law 418 = .ok (.aload_n 0, 1) := by decide +kernel
theorem dL_law_419 : decode cL_law 419 = .ok (.iload_n 3, 1) := by decide +kernel
theorem dL_law_420 : decode cL_law 420 = .ok (.iconst 2, 1) := by decide +kernel
theorem dL_law_421 : decode cL_law 421 = .ok (.iadd, 1) := by decide +kernel
theorem dL_law_422 : decode cL_law 422 = .ok (.iaload, 1) := by decide +kernel
theorem dL_law_423 : decode cL_law 423 = .ok (.invokevirtual 40, 3) := by decide +kernel
theorem dL_law_426 : decode cL_law 426 = .ok (.aload_n 2, 1) := by decide +kernel
theorem dL_law_427 : decode cL_law 427 = .ok (.aload_n 0, 1) := by decide +kernel
theorem dL_law_428 : decode cL_law 428 = .ok (.iload_n 3, 1) := by decide +kernel
theorem dL_law_429 : decode cL_law 429 = .ok (.iconst 1, 1) := by decide +kernel
theorem dL_law_430 : decode cL_law 430 = .ok (.iadd, 1) := by decide +kernel
theorem dL_law_431 : decode cL_law 431 = .ok (.iaload, 1) := by decide +kernel
theorem dL_law_432 : decode cL_law 432 = .ok (.aload_n 0, 1) := by decide +kernel
theorem dL_law_433 : decode cL_law 433 = .ok (.iload_n 3, 1) := by decide +kernel
theorem dL_law_434 : decode cL_law 434 = .ok (.iconst 2, 1) := by decide +kernel
theorem dL_law_435 : decode cL_law 435 = .ok (.iadd, 1) := by decide +kernel
theorem dL_law_436 : decode cL_law 436 = .ok (.iaload, 1) := by decide +kernel
theorem dL_law_437 : decode cL_law 437 = .ok (.invokevirtual 43, 3) := by decide +kernel
theorem dL_law_440 : decode cL_law 440 = .ok (.if_icmp .eq 226, 3) := by decide +kernel
theorem dL_law_443 : decode cL_law 443 = .ok (.iconst 0, 1) := by decide +kernel
theorem dL_law_444 : decode cL_law 444 = .ok (.ireturn, 1) := by decide +kernel
theorem dL_law_445 : decode cL_law 445 = .ok (.aload_n 1, 1) := by decide +kernel
theorem dL_law_446 : decode cL_law 446 = .ok (.aload_n 0, 1) := by decide +kernel
theorem dL_law_447 : decode cL_law 447 = .ok (.iload_n 3, 1) := by decide +kernel
theorem dL_law_448 : decode cL_law 448 = .ok (.iconst 1, 1) := by decide +kernel
theorem dL_law_449 : decode cL_law 449 = .ok (.iadd, 1) := by decide +kernel
theorem dL_law_450 : decode cL_law 450 = .ok (.iaload, 1) := by decide +kernel
theorem dL_law_451 : decode cL_law 451 = .ok (.aload_n 0, 1) := by decide +kernel
theorem dL_law_452 : decode cL_law 452 = .ok (.iload_n 3, 1) := by decide +kernel
theorem dL_law_453 : decode cL_law 453 = .ok (.iconst 2, 1) := by decide +kernel
theorem dL_law_454 : decode cL_law 454 = .ok (.iadd, 1) := by decide +kernel
theorem dL_law_455 : decode cL_law 455 = .ok (.iaload, 1) := by decide +kernel
theorem dL_law_456 : decode cL_law 456 = .ok (.invokevirtual 44, 3) := by decide +kernel
theorem dL_law_459 : decode cL_law 459 = .ok (.aload_n 2, 1) := by decide +kernel
theorem dL_law_460 : decode cL_law 460 = .ok (.aload_n 0, 1) := by decide +kernel
theorem dL_law_461 : decode cL_law 461 = .ok (.iload_n 3, 1) := by decide +kernel
theorem dL_law_462 : decode cL_law 462 = .ok (.iconst 1, 1) := by decide +kernel
theorem dL_law_463 : decode cL_law 463 = .ok (.iadd, 1) := by decide +kernel
theorem dL_law_464 : decode cL_law 464 = .ok (.iaload, 1) := by decide +kernel
theorem dL_law_465 : decode cL_law 465 = .ok (.aload_n 0, 1) := by decide +kernel
theorem dL_law_466 : decode cL_law 466 = .ok (.iload_n 3, 1) := by decide +kernel
theorem dL_law_467 : decode cL_law 467 = .ok (.iconst 2, 1) := by decide +kernel
theorem dL_law_468 : decode cL_law 468 = .ok (.iadd, 1) := by decide +kernel
theorem dL_law_469 : decode cL_law 469 = .ok (.iaload, 1) := by decide +kernel
theorem dL_law_470 : decode cL_law 470 = .ok (.invokevirtual 47, 3) := by decide +kernel
theorem dL_law_473 : decode cL_law 473 = .ok (.if_icmp .eq 193, 3) := by decide +kernel
theorem dL_law_476 : decode cL_law 476 = .ok (.iconst 0, 1) := by decide +kernel
theorem dL_law_477 : decode cL_law 477 = .ok (.ireturn, 1) := by decide +kernel
theorem dL_law_478 : decode cL_law 478 = .ok (.aload_n 1, 1) := by decide +kernel
theorem dL_law_479 : decode cL_law 479 = .ok (.aload_n 0, 1) := by decide +kernel
theorem dL_law_480 : decode cL_law 480 = .ok (.iload_n 3, 1) := by decide +kernel
theorem dL_law_481 : decode cL_law 481 = .ok (.iconst 1, 1) := by decide +kernel
theorem dL_law_482 : decode cL_law 482 = .ok (.iadd, 1) := by decide +kernel
theorem dL_law_483 : decode cL_law 483 = .ok (.iaload, 1) := by decide +kernel
theorem dL_law_484 : decode cL_law 484 = .ok (.invokevirtual 48, 3) := by decide +kernel
theorem dL_law_487 : decode cL_law 487 = .ok (.aload_n 2, 1) := by decide +kernel
theorem dL_law_488 : decode cL_law 488 = .ok (.aload_n 0, 1) := by decide +kernel
theorem dL_law_489 : decode cL_law 489 = .ok (.iload_n 3, 1) := by decide +kernel
theorem dL_law_490 : decode cL_law 490 = .ok (.iconst 1, 1) := by decide +kernel
theorem dL_law_491 : decode cL_law 491 = .ok (.iadd, 1) := by decide +kernel
theorem dL_law_492 : decode cL_law 492 = .ok (.iaload, 1) := by decide +kernel
theorem dL_law_493 : decode cL_law 493 = .ok (.invokevirtual 52, 3) := by decide +kernel
theorem dL_law_496 : decode cL_law 496 = .ok (.if_icmp .eq 170, 3) := by decide +kernel
theorem dL_law_499 : decode cL_law 499 = .ok (.iconst 0, 1) := by decide +kernel
theorem dL_law_500 : decode cL_law 500 = .ok (.ireturn, 1) := by decide +kernel
theorem dL_law_501 : decode cL_law 501 = .ok (.aload_n 1, 1) := by decide +kernel
theorem dL_law_502 : decode cL_law 502 = .ok (.aload_n 0, 1) := by decide +kernel
theorem dL_law_503 : decode cL_law 503 = .ok (.iload_n 3, 1) := by decide +kernel
theorem dL_law_504 : decode cL_law 504 = .ok (.iconst 1, 1) := by decide +kernel
theorem dL_law_505 : decode cL_law 505 = .ok (.iadd, 1) := by decide +kernel
theorem dL_law_506 : decode cL_law 506 = .ok (.iaload, 1) := by decide +kernel
theorem dL_law_507 : decode cL_law 507 = .ok (.aload_n 0, 1) := by decide +kernel
theorem dL_law_508 : decode cL_law 508 = .ok (.iload_n 3, 1) := by decide +kernel
theorem dL_law_509 : decode cL_law 509 = .ok (.iconst 2, 1) := by decide +kernel
theorem dL_law_510 : decode cL_law 510 = .ok (.iadd, 1) := by decide +kernel
theorem dL_law_511 : decode cL_law 511 = .ok (.iaload, 1) := by decide +kernel
theorem dL_law_512 : decode cL_law 512 = .ok (.invokevirtual 53, 3) := by decide +kernel
theorem dL_law_515 : decode cL_law 515 = .ok (.aload_n 2, 1) := by decide +kernel
theorem dL_law_516 : decode cL_law 516 = .ok (.aload_n 0, 1) := by decide +kernel
theorem dL_law_517 : decode cL_law 517 = .ok (.iload_n 3, 1) := by decide +kernel
theorem dL_law_518 : decode cL_law 518 = .ok (.iconst 1, 1) := by decide +kernel
theorem dL_law_519 : decode cL_law 519 = .ok (.iadd, 1) := by decide +kernel
theorem dL_law_520 : decode cL_law 520 = .ok (.iaload, 1) := by decide +kernel
theorem dL_law_521 : decode cL_law 521 = .ok (.aload_n 0, 1) := by decide +kernel
theorem dL_law_522 : decode cL_law 522 = .ok (.iload_n 3, 1) := by decide +kernel
theorem dL_law_523 : decode cL_law 523 = .ok (.iconst 2, 1) := by decide +kernel
theorem dL_law_524 : decode cL_law 524 = .ok (.iadd, 1) := by decide +kernel
theorem dL_law_525 : decode cL_law 525 = .ok (.iaload, 1) := by decide +kernel
theorem dL_law_526 : decode cL_law 526 = .ok (.invokevirtual 56, 3) := by decide +kernel
theorem dL_law_529 : decode cL_law 529 = .ok (.if_icmp .eq 137, 3) := by decide +kernel
theorem dL_law_532 : decode cL_law 532 = .ok (.iconst 0, 1) := by decide +kernel
theorem dL_law_533 : decode cL_law 533 = .ok (.ireturn, 1) := by decide +kernel
theorem dL_law_534 : decode cL_law 534 = .ok (.aload_n 1, 1) := by decide +kernel
theorem dL_law_535 : decode cL_law 535 = .ok (.aload_n 0, 1) := by decide +kernel
theorem dL_law_536 : decode cL_law 536 = .ok (.iload_n 3, 1) := by decide +kernel
theorem dL_law_537 : decode cL_law 537 = .ok (.iconst 1, 1) := by decide +kernel
theorem dL_law_538 : decode cL_law 538 = .ok (.iadd, 1) := by decide +kernel
theorem dL_law_539 : decode cL_law 539 = .ok (.iaload, 1) := by decide +kernel
theorem dL_law_540 : decode cL_law 540 = .ok (.aload_n 0, 1) := by decide +kernel
theorem dL_law_541 : decode cL_law 541 = .ok (.iload_n 3, 1) := by decide +kernel
theorem dL_law_542 : decode cL_law 542 = .ok (.iconst 2, 1) := by decide +kernel
theorem dL_law_543 : decode cL_law 543 = .ok (.iadd, 1) := by decide +kernel
theorem dL_law_544 : decode cL_law 544 = .ok (.iaload, 1) := by decide +kernel
theorem dL_law_545 : decode cL_law 545 = .ok (.invokevirtual 57, 3) := by decide +kernel
theorem dL_law_548 : decode cL_law 548 = .ok (.aload_n 2, 1) := by decide +kernel
theorem dL_law_549 : decode cL_law 549 = .ok (.aload_n 0, 1) := by decide +kernel
theorem dL_law_550 : decode cL_law 550 = .ok (.iload_n 3, 1) := by decide +kernel
theorem dL_law_551 : decode cL_law 551 = .ok (.iconst 1, 1) := by decide +kernel
theorem dL_law_552 : decode cL_law 552 = .ok (.iadd, 1) := by decide +kernel
theorem dL_law_553 : decode cL_law 553 = .ok (.iaload, 1) := by decide +kernel
theorem dL_law_554 : decode cL_law 554 = .ok (.aload_n 0, 1) := by decide +kernel
theorem dL_law_555 : decode cL_law 555 = .ok (.iload_n 3, 1) := by decide +kernel
theorem dL_law_556 : decode cL_law 556 = .ok (.iconst 2, 1) := by decide +kernel
theorem dL_law_557 : decode cL_law 557 = .ok (.iadd, 1) := by decide +kernel
theorem dL_law_558 : decode cL_law 558 = .ok (.iaload, 1) := by decide +kernel
theorem dL_law_559 : decode cL_law 559 = .ok (.invokevirtual 60, 3) := by decide +kernel
theorem dL_law_562 : decode cL_law 562 = .ok (.if_icmp .eq 104, 3) := by decide +kernel
theorem dL_law_565 : decode cL_law 565 = .ok (.iconst 0, 1) := by decide +kernel
theorem dL_law_566 : decode cL_law 566 = .ok (.ireturn, 1) := by decide +kernel
theorem dL_law_567 : decode cL_law 567 = .ok (.aload_n 1, 1) := by decide +kernel
theorem dL_law_568 : decode cL_law 568 = .ok (.aload_n 0, 1) := by decide +kernel
theorem dL_law_569 : decode cL_law 569 = .ok (.iload_n 3, 1) := by decide +kernel
theorem dL_law_570 : decode cL_law 570 = .ok (.iconst 1, 1) := by decide +kernel
theorem dL_law_571 : decode cL_law 571 = .ok (.iadd, 1) := by decide +kernel
theorem dL_law_572 : decode cL_law 572 = .ok (.iaload, 1) := by decide +kernel
theorem dL_law_573 : decode cL_law 573 = .ok (.aload_n 0, 1) := by decide +kernel
theorem dL_law_574 : decode cL_law 574 = .ok (.iload_n 3, 1) := by decide +kernel
theorem dL_law_575 : decode cL_law 575 = .ok (.iconst 2, 1) := by decide +kernel
theorem dL_law_576 : decode cL_law 576 = .ok (.iadd, 1) := by decide +kernel
theorem dL_law_577 : decode cL_law 577 = .ok (.iaload, 1) := by decide +kernel
theorem dL_law_578 : decode cL_law 578 = .ok (.invokevirtual 61, 3) := by decide +kernel
theorem dL_law_581 : decode cL_law 581 = .ok (.aload_n 2, 1) := by decide +kernel
theorem dL_law_582 : decode cL_law 582 = .ok (.aload_n 0, 1) := by decide +kernel
theorem dL_law_583 : decode cL_law 583 = .ok (.iload_n 3, 1) := by decide +kernel
theorem dL_law_584 : decode cL_law 584 = .ok (.iconst 1, 1) := by decide +kernel
theorem dL_law_585 : decode cL_law 585 = .ok (.iadd, 1) := by decide +kernel
theorem dL_law_586 : decode cL_law 586 = .ok (.iaload, 1) := by decide +kernel
theorem dL_law_587 : decode cL_law 587 = .ok (.aload_n 0, 1) := by decide +kernel
theorem dL_law_588 : decode cL_law 588 = .ok (.iload_n 3, 1) := by decide +kernel
theorem dL_law_589 : decode cL_law 589 = .ok (.iconst 2, 1) := by decide +kernel
theorem dL_law_590 : decode cL_law 590 = .ok (.iadd, 1) := by decide +kernel
theorem dL_law_591 : decode cL_law 591 = .ok (.iaload, 1) := by decide +kernel
theorem dL_law_592 : decode cL_law 592 = .ok (.invokevirtual 64, 3) := by decide +kernel
theorem dL_law_595 : decode cL_law 595 = .ok (.if_icmp .eq 71, 3) := by decide +kernel
theorem dL_law_598 : decode cL_law 598 = .ok (.iconst 0, 1) := by decide +kernel
theorem dL_law_599 : decode cL_law 599 = .ok (.ireturn, 1) := by decide +kernel
theorem dL_law_600 : decode cL_law 600 = .ok (.aload_n 1, 1) := by decide +kernel
theorem dL_law_601 : decode cL_law 601 = .ok (.aload_n 0, 1) := by decide +kernel
theorem dL_law_602 : decode cL_law 602 = .ok (.iload_n 3, 1) := by decide +kernel
theorem dL_law_603 : decode cL_law 603 = .ok (.iconst 1, 1) := by decide +kernel
theorem dL_law_604 : decode cL_law 604 = .ok (.iadd, 1) := by decide +kernel
theorem dL_law_605 : decode cL_law 605 = .ok (.iaload, 1) := by decide +kernel
theorem dL_law_606 : decode cL_law 606 = .ok (.aload_n 0, 1) := by decide +kernel
theorem dL_law_607 : decode cL_law 607 = .ok (.iload_n 3, 1) := by decide +kernel
theorem dL_law_608 : decode cL_law 608 = .ok (.iconst 2, 1) := by decide +kernel
theorem dL_law_609 : decode cL_law 609 = .ok (.iadd, 1) := by decide +kernel
theorem dL_law_610 : decode cL_law 610 = .ok (.iaload, 1) := by decide +kernel
theorem dL_law_611 : decode cL_law 611 = .ok (.aload_n 0, 1) := by decide +kernel
theorem dL_law_612 : decode cL_law 612 = .ok (.iload_n 3, 1) := by decide +kernel
theorem dL_law_613 : decode cL_law 613 = .ok (.iconst 3, 1) := by decide +kernel
theorem dL_law_614 : decode cL_law 614 = .ok (.iadd, 1) := by decide +kernel
theorem dL_law_615 : decode cL_law 615 = .ok (.iaload, 1) := by decide +kernel
theorem dL_law_616 : decode cL_law 616 = .ok (.invokevirtual 65, 3) := by decide +kernel
theorem dL_law_619 : decode cL_law 619 = .ok (.aload_n 2, 1) := by decide +kernel
theorem dL_law_620 : decode cL_law 620 = .ok (.aload_n 0, 1) := by decide +kernel
theorem dL_law_621 : decode cL_law 621 = .ok (.iload_n 3, 1) := by decide +kernel
theorem dL_law_622 : decode cL_law 622 = .ok (.iconst 1, 1) := by decide +kernel
theorem dL_law_623 : decode cL_law 623 = .ok (.iadd, 1) := by decide +kernel
theorem dL_law_624 : decode cL_law 624 = .ok (.iaload, 1) := by decide +kernel
theorem dL_law_625 : decode cL_law 625 = .ok (.aload_n 0, 1) := by decide +kernel
theorem dL_law_626 : decode cL_law 626 = .ok (.iload_n 3, 1) := by decide +kernel
theorem dL_law_627 : decode cL_law 627 = .ok (.iconst 2, 1) := by decide +kernel
theorem dL_law_628 : decode cL_law 628 = .ok (.iadd, 1) := by decide +kernel
theorem dL_law_629 : decode cL_law 629 = .ok (.iaload, 1) := by decide +kernel
theorem dL_law_630 : decode cL_law 630 = .ok (.aload_n 0, 1) := by decide +kernel
theorem dL_law_631 : decode cL_law 631 = .ok (.iload_n 3, 1) := by decide +kernel
theorem dL_law_632 : decode cL_law 632 = .ok (.iconst 3, 1) := by decide +kernel
theorem dL_law_633 : decode cL_law 633 = .ok (.iadd, 1) := by decide +kernel
theorem dL_law_634 : decode cL_law 634 = .ok (.iaload, 1) := by decide +kernel
theorem dL_law_635 : decode cL_law 635 = .ok (.invokevirtual 69, 3) := by decide +kernel
theorem dL_law_638 : decode cL_law 638 = .ok (.if_icmp .eq 28, 3) := by decide +kernel
theorem dL_law_641 : decode cL_law 641 = .ok (.iconst 0, 1) := by decide +kernel
theorem dL_law_642 : decode cL_law 642 = .ok (.ireturn, 1) := by decide +kernel
theorem dL_law_643 : decode cL_law 643 = .ok (.aload_n 1, 1) := by decide +kernel
theorem dL_law_644 : decode cL_law 644 = .ok (.aload_n 0, 1) := by decide +kernel
theorem dL_law_645 : decode cL_law 645 = .ok (.iload_n 3, 1) := by decide +kernel
theorem dL_law_646 : decode cL_law 646 = .ok (.iconst 1, 1) := by decide +kernel
theorem dL_law_647 : decode cL_law 647 = .ok (.iadd, 1) := by decide +kernel
theorem dL_law_648 : decode cL_law 648 = .ok (.iaload, 1) := by decide +kernel
theorem dL_law_649 : decode cL_law 649 = .ok (.invokevirtual 70, 3) := by decide +kernel
theorem dL_law_652 : decode cL_law 652 = .ok (.aload_n 2, 1) := by decide +kernel
theorem dL_law_653 : decode cL_law 653 = .ok (.aload_n 0, 1) := by decide +kernel
theorem dL_law_654 : decode cL_law 654 = .ok (.iload_n 3, 1) := by decide +kernel
theorem dL_law_655 : decode cL_law 655 = .ok (.iconst 1, 1) := by decide +kernel
theorem dL_law_656 : decode cL_law 656 = .ok (.iadd, 1) := by decide +kernel
theorem dL_law_657 : decode cL_law 657 = .ok (.iaload, 1) := by decide +kernel
theorem dL_law_658 : decode cL_law 658 = .ok (.invokevirtual 73, 3) := by decide +kernel
theorem dL_law_661 : decode cL_law 661 = .ok (.if_icmp .eq 5, 3) := by decide +kernel
theorem dL_law_664 : decode cL_law 664 = .ok (.iconst 0, 1) := by decide +kernel
theorem dL_law_665 : decode cL_law 665 = .ok (.ireturn, 1) := by decide +kernel
theorem dL_law_666 : decode cL_law 666 = .ok (.iinc 3 7, 3) := by decide +kernel
theorem dL_law_669 : decode cL_law 669 = .ok (.goto (-651), 3) := by decide +kernel
theorem dL_law_672 : decode cL_law 672 = .ok (.iconst 1, 1) := by decide +kernel
theorem dL_law_673 : decode cL_law 673 = .ok (.ireturn, 1) := by decide +kernel
end
section
/-! ===== THE ENGINE: an abstract machine over a sorted heap. A cell is (sort, index); its contents are V sort index slot; a value is an Int or a reference to a cell (or null). AW: from this abstract state the machine comes to the method's end with Post. ===== -/
abbrev AV : Type := Int ⊕ Option (Nat × Nat)
abbrev Vw : Type := Nat → Nat → Nat → AV
abbrev Lw : Type := Nat → Nat → Bool
abbrev Ad : Type := Nat → Nat → Nat
abbrev Pst : Type := Option AV → Lw → Vw → Nat → Prop
def rl (ad : Ad) : AV → Value
  | .inl e => .int (Int32.ofInt e)
  | .inr none => .null
  | .inr (some q) => .ref (ad q.1 q.2)
theorem rl_cat (ad : Ad) (v : AV) : (rl ad v).category = 1 := by
  rcases v with e | _ | q <;> rfl
abbrev Rg (e : Int) : Prop := -2147483648 ≤ e ∧ e ≤ 2147483647
theorem rg_toInt {e : Int} (h : Rg e) : (Int32.ofInt e).toInt = e := Int32.toInt_ofInt_of_le (by omega) (by omega)
theorem rg_lt {a b : Int} (ha : Rg a) (hb : Rg b) : Int32.ofInt a < Int32.ofInt b ↔ a < b := by
  rw [Int32.lt_iff_toInt_lt, rg_toInt ha, rg_toInt hb]
theorem rg_le {a b : Int} (ha : Rg a) (hb : Rg b) : Int32.ofInt a ≤ Int32.ofInt b ↔ a ≤ b := by
  rw [Int32.le_iff_toInt_le, rg_toInt ha, rg_toInt hb]
theorem rg_eq {a b : Int} (ha : Rg a) (hb : Rg b) : Int32.ofInt a = Int32.ofInt b ↔ a = b := by
  rw [← Int32.toInt_inj, rg_toInt ha, rg_toInt hb]
theorem rg_0 : (0 : Int32) = Int32.ofInt 0 := by decide +kernel
theorem rg_z : Rg 0 := by decide
theorem rg_clamp {e : Int} (h : Rg e) : (Int32.ofInt e).toNatClampNeg = e.toNat := Int32.toNatClampNeg_ofInt_of_le (by omega) (by omega)
theorem rg_in {e : Int} {n : Nat} (h0 : 0 ≤ e) (h1 : e < n) (hn : n ≤ 1000000) : vp_in (Int32.ofInt e) n := by
  intro h
  have hr : Rg e := ⟨by omega, by omega⟩
  rcases h with h | h
  · rw [rg_0, rg_lt hr rg_z] at h; omega
  · rw [rg_clamp hr] at h; omega
/-- what a sort's cells are: objects of a class (its number), or arrays (their kind) -/
def Kd (σ i : Nat) : Nat ⊕ Nat := match σ with
  | 0 => .inl 5
  | 1 => .inl 3
  | 2 => .inl 1
  | 5 => .inl 4
  | 6 => .inr 0
  | 7 => .inl 0
  | 8 => .inr 3
  | 9 => .inr 0
  | 10 => .inr 0
  | 11 => .inr 4
  | 30 => .inl 2
  | 31 => .inl 2
  | 32 => .inl 2
  | 33 => .inl 2
  | 34 => .inl 2
  | 40 => .inr 2
  | 41 => .inr 2
  | 42 => .inr 2
  | 43 => .inr 2
  | 44 => .inr 2
  | 50 => .inl 6
  | 51 => if i = 5 ∨ i = 11 ∨ i = 13 ∨ i = 17 ∨ i = 18 then .inr 1 else .inr 0
  | _ => .inl 7
def LnR (i : Nat) : Nat := match i with
  | 3 => 8
  | 4 => 8
  | 5 => 8
  | 6 => 24
  | 7 => 24
  | 23 => 210
  | 25 => 12
  | 26 => 12
  | 27 => 12
  | 28 => 96
  | 29 => 12
  | 30 => 360
  | 31 => 2
  | 32 => 60
  | 33 => 16
  | 34 => 480
  | 35 => 16
  | _ => 30
theorem LnR_le (i : Nat) : LnR i ≤ 480 := by unfold LnR; split <;> decide
def Ln (σ i : Nat) : Nat := match σ with
  | 6 => 7
  | 8 => 8
  | 9 => 24
  | 10 => 24
  | 11 => 12
  | 40 => 3
  | 43 => 8
  | 51 => LnR i
  | _ => 30
theorem Ln_le (σ i : Nat) : Ln σ i ≤ 480 := by unfold Ln; split <;> first | decide | exact LnR_le i
def Nc : Nat → Nat
  | 0 => 4
  | 1 => 2
  | 2 => 2
  | 3 => 6
  | 4 => 16
  | 5 => 11
  | 6 => 36
  | _ => 0
def RR : Nat → String
  | 0 => RX0
  | 1 => RX1
  | 2 => RX2
  | 3 => RX3
  | 4 => RX4
  | 5 => RX5
  | _ => RX6
theorem lt7 {P : Nat → Prop} (h0 : P 0) (h1 : P 1) (h2 : P 2) (h3 : P 3) (h4 : P 4) (h5 : P 5) (h6 : P 6) : ∀ c, c < 7 → P c := by
  intro c hc
  match c, hc with
  | 0, _ => exact h0
  | 1, _ => exact h1
  | 2, _ => exact h2
  | 3, _ => exact h3
  | 4, _ => exact h4
  | 5, _ => exact h5
  | 6, _ => exact h6
theorem cl_at {ci : Nat} (h : ci < 7) : vwCl[ci]? = some (RR ci, TT ci, Nc ci) := lt7 (P := fun ci => vwCl[ci]? = some (RR ci, TT ci, Nc ci)) rfl rfl rfl rfl rfl rfl rfl ci h
theorem cl_uw {ci : Nat} (h : ci < 7) : ∀ w ∈ u_ws (RR ci) (TT ci) (Nc ci), w ∈ TB := lt7 (P := fun ci => ∀ w ∈ u_ws (RR ci) (TT ci) (Nc ci), w ∈ TB) uw_X0 uw_X1 uw_X2 uw_X3 uw_X4 uw_X5 uw_X6 ci h
theorem cl_ty {ci : Nat} (h : ci < 7) : ∀ k, k < Nc ci → parseFieldDescriptor (TT ci k).2.2.1 = some (tyT ci k) := lt7 (P := fun ci => ∀ k, k < Nc ci → parseFieldDescriptor (TT ci k).2.2.1 = some (tyT ci k)) tyX0_ok tyX1_ok tyX2_ok tyX3_ok tyX4_ok tyX5_ok tyX6_ok ci h
theorem cl_nm {ci : Nat} (h : ci < 7) : ∀ a, a < Nc ci → ∀ b, b < Nc ci → a ≠ b → (TT ci a).2.1 ≠ (TT ci b).2.1 := lt7 (P := fun ci => ∀ a, a < Nc ci → ∀ b, b < Nc ci → a ≠ b → (TT ci a).2.1 ≠ (TT ci b).2.1) nmX0 nmX1 nmX2 nmX3 nmX4 nmX5 nmX6 ci h
/-- the element types of the arrays, by kind -/
def aty : Nat → FieldType
  | 0 => .int
  | 1 => .boolean
  | 2 => .object RX4
  | 3 => .object RX3
  | _ => .object RX0
def tyA (cA : Nat → ClassId) : List (ClassId × FieldType) := [(cA 0, aty 0), (cA 1, aty 1), (cA 2, aty 2), (cA 3, aty 3), (cA 4, aty 4)]
theorem tyA_at (cA : Nat → ClassId) {t : Nat} (h : t < 5) : (tyA cA)[t]? = some (cA t, aty t) := by
  match t, h with
  | 0, _ => rfl
  | 1, _ => rfl
  | 2, _ => rfl
  | 3, _ => rfl
  | 4, _ => rfl
/-- what is known of the tables -/
def KK (D : va_G) (cA : Nat → ClassId) (U : State) : Prop := va_K D vwCl (tyA cA) U ∧ (∀ w ∈ NW, va_Nw w U) ∧ va_AO RX4 U ∧ va_AO RX3 U ∧ va_AO RX0 U
theorem NW_nest {w : Cond} (h : w ∈ NW) : isNest w = true := (List.mem_filter.mp h).2
theorem KK.warm {D : va_G} {cA : Nat → ClassId} {s U : State} (hW : s.WarmedH U.vm) (h : KK D cA s) : KK D cA U := by
  refine ⟨va_K.moved hW.alike h.1, fun w hw => ?_, h.2.2.1.moved hW.alike, h.2.2.2.1.moved hW.alike, h.2.2.2.2.moved hW.alike⟩
  have hn := NW_nest hw
  have h0 := h.2.1 w hw
  cases w <;> first | exact va_Nw.warmF hW h0 | exact va_Nw.warmM hW h0 | (simp [isNest] at hn; done)
theorem isNest_tables {w : Cond} (h : isNest w = true) : w.onTables = true := by
  cases w <;> first | rfl | (simp [isNest] at h; done)
theorem KK.same {D : va_G} {cA : Nat → ClassId} {s U : State} (e : s.vm = U.vm) (h : KK D cA s) : KK D cA U := by
  have ha : s.vm.Alike U.vm := by rw [e]; exact Vm.Alike.refl U.vm
  exact ⟨va_K.moved ha h.1, fun w hw => va_Nw.same (isNest_tables (NW_nest hw)) e (h.2.1 w hw), h.2.2.1.moved ha, h.2.2.2.1.moved ha, h.2.2.2.2.moved ha⟩
def cellOK (D : va_G) (cA : Nat → ClassId) (kd : Nat ⊕ Nat) (n : Nat) (f : Nat → Value) (a : Nat) (H : Heap) : Prop := match kd with
  | .inl ci => t_OB a (D.1 ci) (Nc ci) (D.2 ci) H f
  | .inr t => H[a]? = some (arrV (cA t) n f)
theorem cellOK.kept {D : va_G} {cA : Nat → ClassId} {kd : Nat ⊕ Nat} {n : Nat} {f : Nat → Value} {a : Nat} {H H1 : Heap} (h : cellOK D cA kd n f a H) (e : H1[a]? = H[a]?) : cellOK D cA kd n f a H1 := by
  rcases kd with ci | t
  · exact t_OB.kept h e
  · exact e.trans h
theorem cellOK.lt {D : va_G} {cA : Nat → ClassId} {kd : Nat ⊕ Nat} {n : Nat} {f : Nat → Value} {a : Nat} {H : Heap} (h : cellOK D cA kd n f a H) : a < H.size := by
  rcases kd with ci | t
  · obtain ⟨cell, h1, -⟩ := h
    exact (Array.getElem?_eq_some_iff.mp h1).1
  · exact (Array.getElem?_eq_some_iff.mp h).1
/-- the heap holds the live cells -/
def HP (D : va_G) (cA : Nat → ClassId) (A : Nat → Prop) (ad : Ad) (lv : Lw) (V : Vw) (sz : Nat) (H : Heap) : Prop :=
  H.size = sz ∧ (∀ σ i, lv σ i = true → A (ad σ i) ∧ cellOK D cA (Kd σ i) (Ln σ i) (fun k => rl ad (V σ i k)) (ad σ i) H) ∧ ∀ σ i τ j, lv σ i = true → lv τ j = true → ad σ i = ad τ j → σ = τ ∧ i = j
def s3 (V : Vw) (σ i k : Nat) (x : AV) : Vw := fun σ' i' k' => if σ' = σ ∧ i' = i ∧ k' = k then x else V σ' i' k'
theorem s3_self (V : Vw) (σ i k : Nat) (x : AV) : s3 V σ i k x σ i k = x := by simp [s3]
theorem s3_cell {V : Vw} {σ i τ j : Nat} (h : ¬ (τ = σ ∧ j = i)) (k : Nat) (x : AV) : s3 V σ i k x τ j = V τ j := by
  funext q
  simp only [s3]
  rw [if_neg]
  exact fun g => h ⟨g.1, g.2.1⟩
def sC (V : Vw) (σ i : Nat) (f : Nat → AV) : Vw := fun σ' i' k' => if σ' = σ ∧ i' = i then f k' else V σ' i' k'
theorem sC_cell {V : Vw} {σ i τ j : Nat} (h : ¬ (τ = σ ∧ j = i)) (f : Nat → AV) : sC V σ i f τ j = V τ j := by
  funext q
  simp only [sC]
  rw [if_neg h]
theorem sC_self (V : Vw) (σ i : Nat) (f : Nat → AV) : sC V σ i f σ i = f := by
  funext q
  simp [sC]
def l2 (lv : Lw) (σ i : Nat) : Lw := fun σ' i' => if σ' = σ ∧ i' = i then true else lv σ' i'
theorem HP.set {D : va_G} {cA : Nat → ClassId} {A : Nat → Prop} {ad : Ad} {lv : Lw} {V : Vw} {sz : Nat} {H H1 : Heap} (h : HP D cA A ad lv V sz H) {σ i k : Nat} {x : AV} (hl : lv σ i = true) (z : H1.size = H.size) (o : ∀ q, q ≠ ad σ i → H1[q]? = H[q]?) (he : cellOK D cA (Kd σ i) (Ln σ i) (updV (fun k => rl ad (V σ i k)) k (rl ad x)) (ad σ i) H1) : HP D cA A ad lv (s3 V σ i k x) sz H1 := by
  refine ⟨z.trans h.1, fun τ j hj => ⟨(h.2.1 τ j hj).1, ?_⟩, h.2.2⟩
  by_cases hc : τ = σ ∧ j = i
  · obtain ⟨rfl, rfl⟩ := hc
    have e : (fun q => rl ad (s3 V τ j k x τ j q)) = updV (fun k => rl ad (V τ j k)) k (rl ad x) := by
      funext q
      by_cases hq : q = k
      · subst hq; simp [s3, updV]
      · simp [s3, updV, hq]
    rw [e]; exact he
  · rw [s3_cell hc]
    exact (h.2.1 τ j hj).2.kept (o _ (fun e => hc (h.2.2 τ j σ i hj hl e)))
theorem HP.push {D : va_G} {cA : Nat → ClassId} {A : Nat → Prop} {ad : Ad} {lv : Lw} {V : Vw} {sz : Nat} {H H1 : Heap} (h : HP D cA A ad lv V sz H) {σ i : Nat} {f : Nat → AV} (had : ad σ i = sz) (hA : A sz) (z : H1.size = sz + 1) (o : ∀ q, q < sz → H1[q]? = H[q]?) (he : cellOK D cA (Kd σ i) (Ln σ i) (fun k => rl ad (f k)) sz H1) : HP D cA A ad (l2 lv σ i) (sC V σ i f) (sz + 1) H1 := by
  have key : ∀ τ j, l2 lv σ i τ j = true → (τ = σ ∧ j = i) ∨ (¬ (τ = σ ∧ j = i) ∧ lv τ j = true) := by
    intro τ j hj
    by_cases hc : τ = σ ∧ j = i
    · exact Or.inl hc
    · refine Or.inr ⟨hc, ?_⟩
      simp only [l2] at hj
      rwa [if_neg hc] at hj
  have lt : ∀ τ j, lv τ j = true → ad τ j < sz := fun τ j hj => by have := (h.2.1 τ j hj).2.lt; rw [h.1] at this; exact this
  refine ⟨z, fun τ j hj => ?_, fun τ j τ' j' hj hj' e => ?_⟩
  · rcases key τ j hj with ⟨rfl, rfl⟩ | ⟨hc, hj⟩
    · rw [sC_self, had]
      exact ⟨hA, he⟩
    · rw [sC_cell hc]
      exact ⟨(h.2.1 τ j hj).1, (h.2.1 τ j hj).2.kept (o _ (lt τ j hj))⟩
  · rcases key τ j hj with g1 | ⟨-, g1⟩
    · rcases key τ' j' hj' with g2 | ⟨-, g2⟩
      · exact ⟨g1.1.trans g2.1.symm, g1.2.trans g2.2.symm⟩
      · have := lt τ' j' g2
        rw [g1.1, g1.2, had] at e
        omega
    · rcases key τ' j' hj' with g2 | ⟨-, g2⟩
      · have := lt τ j g1
        rw [g2.1, g2.2, had] at e
        omega
      · exact h.2.2 τ j τ' j' g1 g2 e
def LV (ad : Ad) (nL : Nat) (L : List (Option AV)) (ls : Array Slot) : Prop := ls.size = nL ∧ lv_wf ls ∧ ∀ (i : Nat) (v : AV), L[i]? = some (some v) → ls[i]? = some (Slot.val (rl ad v))
def lvL (ad : Ad) (L : List (Option AV)) : List (Nat × Value) := (List.range L.length).filterMap (fun i => match L[i]? with
  | some (some v) => some (i, rl ad v)
  | _ => none)
theorem lvL_mem {ad : Ad} {L : List (Option AV)} {i : Nat} {v : AV} (h : L[i]? = some (some v)) : (i, rl ad v) ∈ lvL ad L := by
  refine List.mem_filterMap.mpr ⟨i, List.mem_range.mpr (List.getElem?_eq_some_iff.mp h).1, ?_⟩
  simp [h]
theorem LV.has {ad : Ad} {nL : Nat} {L : List (Option AV)} {ls : Array Slot} (h : LV ad nL L ls) : lv_has ls nL (lvL ad L) := by
  refine ⟨h.1, h.2.1, fun q hq => ?_⟩
  obtain ⟨i, hi, hm⟩ := List.mem_filterMap.mp hq
  cases hL : L[i]? with
  | none => simp [hL] at hm
  | some o =>
    cases o with
    | none => simp [hL] at hm
    | some v =>
      simp [hL] at hm
      subst hm
      exact h.2.2 i v hL
theorem LV.stored {ad : Ad} {nL : Nat} {L : List (Option AV)} {ls' : Array Slot} {i : Nat} {v : AV} (h : lv_has ls' nL ((i, rl ad v) :: (lvL ad L).filter (fun q => !(q.1 == i) && !(q.1 + 1 == i && q.2.category == 2)))) : LV ad nL (L.set i (some v)) ls' := by
  refine ⟨h.1, h.2.1, fun j u hj => ?_⟩
  by_cases hji : j = i
  · subst hji
    have hlt : j < L.length := by
      have := (List.getElem?_eq_some_iff.mp hj).1
      simpa using this
    rw [List.getElem?_set_self hlt] at hj
    cases hj
    exact h.2.2 (j, rl ad v) List.mem_cons_self
  · rw [List.getElem?_set_ne (Ne.symm hji)] at hj
    refine h.2.2 (j, rl ad u) (List.mem_cons_of_mem _ (List.mem_filter.mpr ⟨lvL_mem hj, ?_⟩))
    simp [hji, rl_cat]
theorem lv_args_mem (ad : Ad) : ∀ (av : List AV) (n i : Nat) (v : AV), av[i]? = some v → (n + i, rl ad v) ∈ lv_args n (av.map (rl ad))
  | [], _, i, v, h => by simp at h
  | a :: av, n, 0, v, h => by
    simp at h
    subst h
    simp [lv_args]
  | a :: av, n, i + 1, v, h => by
    have h2 := lv_args_mem ad av (n + 1) i v (by simpa using h)
    simp only [List.map_cons, lv_args, rl_cat]
    refine List.mem_cons_of_mem _ ?_
    rw [if_neg (by decide), show n + (i + 1) = n + 1 + i by omega]
    exact h2
theorem lg_sl_len (ad : Ad) (av : List AV) : (lg_sl (av.map (rl ad))).length = av.length := by
  induction av with
  | nil => rfl
  | cons a av ih =>
    have e : lg_sl ((a :: av).map (rl ad)) = Slot.val (rl ad a) :: lg_sl (av.map (rl ad)) := by simp [lg_sl, rl_cat]
    rw [e]
    simp [ih]
def CX (y : MethodName) (cc : ByteArray) (nL : Nat) (ret : Option FieldType) (D : va_G) (cA : Nat → ClassId) (p : Program) (s : State) (m : MethodId) (args : Array Value) (meth : Method) (c : Code) : Prop :=
  p.tables.exec = Jvm.exec ∧ c.code = cc ∧ c.maxLocals = nL ∧ meth.sig.returnType = ret ∧ meth.locks = false ∧ s.vm.findClass y.cls = some m.cls ∧ (∀ w ∈ TB, w.before args s = true) ∧ KK D cA s ∧ meth.name = y.name
def QC (D : va_G) (cA : Nat → ClassId) (A : Nat → Prop) (ad : Ad) (Post : Pst) : Array Value → State → Outcome → State → Prop := fun _ st o t => (∃ (r : Option AV) (lv : Lw) (V : Vw) (sz : Nat), o = .returned (r.map (rl ad)) ∧ Post r lv V sz ∧ HP D cA A ad lv V sz t.heap) ∧ va_F A st t
def AW (l : Launch) (D : va_G) (cA : Nat → ClassId) (A : Nat → Prop) (ad : Ad) (y : MethodName) (cc : ByteArray) (nL : Nat) (ret : Option FieldType) (R : Room) (Post : Pst) (cells slots : Nat) (lv : Lw) (V : Vw) (sz pc : Nat) (L : List (Option AV)) (st : List AV) : Prop :=
  ∀ (p : Program) (e : Env) (s : State) (m : MethodId) (args : Array Value) (below : List Frame) (meth : Method) (c : Code) (H : Heap) (locs : List Loc) (ls : Array Slot), CX y cc nL ret D cA p s m args meth c → (∀ q, s.heap.size ≤ q → A q) → HP D cA A ad lv V sz H → va_S A s.heap H locs → LV ad nL L ls → W p l e R s m args below meth c H locs cells slots (MQ below (QC D cA A ad Post) args s R.cells R.slots A) (F0 m pc ls (st.map (rl ad)))
def CT (l : Launch) (D : va_G) (cA : Nat → ClassId) (A : Nat → Prop) (ad : Ad) (y : MethodName) (cc : ByteArray) (nL : Nat) (ret : Option FieldType) (R : Room) (av : List AV) (lv : Lw) (V : Vw) (sz : Nat) (Post : Pst) : Prop :=
  Met l y (Cond.code y cc nL ret :: TB) R (fun v U => v = (av.map (rl ad)).toArray ∧ KK D cA U ∧ HP D cA A ad lv V sz U.heap ∧ ∀ q, sz ≤ q → A q) (QC D cA A ad Post) R.cells R.slots A
section ENG
variable {l : Launch} {D : va_G} {cA : Nat → ClassId} {A : Nat → Prop} {ad : Ad} {y : MethodName} {cc : ByteArray} {nL : Nat} {ret : Option FieldType} {R : Room} {Post : Pst} {cells slots : Nat} {lv : Lw} {V : Vw} {sz pc : Nat} {L : List (Option AV)} {st : List AV}
theorem CT.of {av : List AV} (hy : plainName y.cls = true) (hn : av.length ≤ nL) (h : AW l D cA A ad y cc nL ret R Post 0 0 lv V sz 0 (av.map some ++ List.replicate (nL - av.length) none) []) : CT l D cA A ad y cc nL ret R av lv V sz Post := by
  refine Met.ofW (cc := cc) (maxL := nL) (ret := ret) hy rfl ?_
  intro p e s m args below meth c s₁ B hml hv
  obtain ⟨rfl, hK, hH, hA⟩ := hv
  have hts := atoms_spec (ws := Cond.code y cc nL ret :: TB) B.pre
  have hl := lv_entry (av.map (rl ad)) (n := nL) (by rw [lg_sl_len]; exact hn)
  rw [lg_entry_eq]
  generalize (lg_sl (av.map (rl ad)) ++ List.replicate (nL - (lg_sl (av.map (rl ad))).length) Slot.unset).toArray = ls at hl ⊢
  refine h p e s m _ below meth c s.heap [] ls ⟨B.exec, B.bytes, hml, B.returns, B.notSynchronized, findClass_of_methodNamed B.named, fun w hw => hts w (List.mem_cons_of_mem _ hw), hK, (name_of_methodNamed B.named B.method).1⟩ (fun q hq => hA q (by rw [← hH.1]; exact hq)) hH va_S.rf ⟨hl.1, hl.2.1, fun i v hi => ?_⟩
  have hi2 : av[i]? = some v := by
    by_cases hlt : i < (av.map some).length
    · rw [List.getElem?_append_left hlt, List.getElem?_map] at hi
      cases ha : av[i]? with
      | none => rw [ha] at hi; cases hi
      | some u => rw [ha] at hi; simp at hi; rw [hi]
    · rw [List.getElem?_append_right (by omega)] at hi
      have := List.eq_of_mem_replicate (List.mem_of_getElem? hi)
      cases this
  have := lv_args_mem ad av 0 i v hi2
  rw [Nat.zero_add] at this
  exact hl.2.2 _ this
/-! straight rows -/
theorem aw_iconst {n : Int} (hd : decode cc pc = .ok (.iconst n, 1)) (k : AW l D cA A ad y cc nL ret R Post cells slots lv V sz (pc + 1) L (.inl n :: st)) : AW l D cA A ad y cc nL ret R Post cells slots lv V sz pc L st := by
  intro p e s m args below meth c H locs ls X hA hH hS hL
  exact lv_iconst X.1 X.2.1 hd rfl (k p e s m args below meth c H locs ls X hA hH hS hL)
theorem aw_bipush {n : Int} (hd : decode cc pc = .ok (.bipush n, 2)) (hv : (Int8.ofInt n).toInt32 = Int32.ofInt n) (k : AW l D cA A ad y cc nL ret R Post cells slots lv V sz (pc + 2) L (.inl n :: st)) : AW l D cA A ad y cc nL ret R Post cells slots lv V sz pc L st := by
  intro p e s m args below meth c H locs ls X hA hH hS hL
  exact lv_bipush X.1 X.2.1 hd hv (k p e s m args below meth c H locs ls X hA hH hS hL)
theorem aw_sipush {n : Int} (hd : decode cc pc = .ok (.sipush n, 3)) (hv : (Int16.ofInt n).toInt32 = Int32.ofInt n) (k : AW l D cA A ad y cc nL ret R Post cells slots lv V sz (pc + 3) L (.inl n :: st)) : AW l D cA A ad y cc nL ret R Post cells slots lv V sz pc L st := by
  intro p e s m args below meth c H locs ls X hA hH hS hL
  exact lv_sipush X.1 X.2.1 hd hv (k p e s m args below meth c H locs ls X hA hH hS hL)
theorem aw_ldc {idx : Nat} {v : Int32} {n : Int} (hd : decode cc pc = .ok (.ldc idx, 2)) (hc : Cond.constant y.cls idx v ∈ TB) (hv : Int32.ofInt n = v) (k : AW l D cA A ad y cc nL ret R Post cells slots lv V sz (pc + 2) L (.inl n :: st)) : AW l D cA A ad y cc nL ret R Post cells slots lv V sz pc L st := by
  intro p e s m args below meth c H locs ls X hA hH hS hL
  subst hv
  obtain ⟨hx, hb, hml, hr, hlk, hown, hts, hK, hnm⟩ := id X
  exact lv_ldc hx hb hown (hts _ hc) hd (k p e s m args below meth c H locs ls X hA hH hS hL)
theorem aw_null (hd : decode cc pc = .ok (.aconst_null, 1)) (k : AW l D cA A ad y cc nL ret R Post cells slots lv V sz (pc + 1) L (.inr none :: st)) : AW l D cA A ad y cc nL ret R Post cells slots lv V sz pc L st := by
  intro p e s m args below meth c H locs ls X hA hH hS hL
  exact lv_null X.1 X.2.1 hd (k p e s m args below meth c H locs ls X hA hH hS hL)
theorem aw_iload_n {k : Fin 4} {i : Nat} {x : Int} (hd : decode cc pc = .ok (.iload_n k, 1)) (hi : (k : Nat) = i) (hl : L[i]? = some (some (.inl x))) (kk : AW l D cA A ad y cc nL ret R Post cells slots lv V sz (pc + 1) L (.inl x :: st)) : AW l D cA A ad y cc nL ret R Post cells slots lv V sz pc L st := by
  intro p e s m args below meth c H locs ls X hA hH hS hL
  exact lv_iload_n X.1 X.2.1 hd hi (hL.2.2 _ _ hl) (kk p e s m args below meth c H locs ls X hA hH hS hL)
theorem aw_iload {i : Nat} {x : Int} (hd : decode cc pc = .ok (.iload i, 2)) (hl : L[i]? = some (some (.inl x))) (kk : AW l D cA A ad y cc nL ret R Post cells slots lv V sz (pc + 2) L (.inl x :: st)) : AW l D cA A ad y cc nL ret R Post cells slots lv V sz pc L st := by
  intro p e s m args below meth c H locs ls X hA hH hS hL
  exact lv_iload X.1 X.2.1 hd (hL.2.2 _ _ hl) (kk p e s m args below meth c H locs ls X hA hH hS hL)
theorem aw_aload_n {k : Fin 4} {i : Nat} {x : Option (Nat × Nat)} (hd : decode cc pc = .ok (.aload_n k, 1)) (hi : (k : Nat) = i) (hl : L[i]? = some (some (.inr x))) (kk : AW l D cA A ad y cc nL ret R Post cells slots lv V sz (pc + 1) L (.inr x :: st)) : AW l D cA A ad y cc nL ret R Post cells slots lv V sz pc L st := by
  intro p e s m args below meth c H locs ls X hA hH hS hL
  have h := hL.2.2 _ _ hl
  have k2 := kk p e s m args below meth c H locs ls X hA hH hS hL
  cases x with
  | none => exact lv_aload_nN X.1 X.2.1 hd hi h k2
  | some q => exact lv_aload_n X.1 X.2.1 hd hi h k2
theorem aw_aload {i : Nat} {x : Option (Nat × Nat)} (hd : decode cc pc = .ok (.aload i, 2)) (hl : L[i]? = some (some (.inr x))) (kk : AW l D cA A ad y cc nL ret R Post cells slots lv V sz (pc + 2) L (.inr x :: st)) : AW l D cA A ad y cc nL ret R Post cells slots lv V sz pc L st := by
  intro p e s m args below meth c H locs ls X hA hH hS hL
  have h := hL.2.2 _ _ hl
  have k2 := kk p e s m args below meth c H locs ls X hA hH hS hL
  cases x with
  | none => exact lv_aloadN X.1 X.2.1 hd h k2
  | some q => exact lv_aload X.1 X.2.1 hd h k2
theorem aw_istore_n {k : Fin 4} {i : Nat} {x : Int} (hd : decode cc pc = .ok (.istore_n k, 1)) (hi : (k : Nat) = i) (hn : i < nL) (kk : AW l D cA A ad y cc nL ret R Post cells slots lv V sz (pc + 1) (L.set i (some (.inl x))) st) : AW l D cA A ad y cc nL ret R Post cells slots lv V sz pc L (.inl x :: st) := by
  intro p e s m args below meth c H locs ls X hA hH hS hL
  exact lv_istore_n X.1 X.2.1 hd hi hL.has hn rfl (fun ls' h' => kk p e s m args below meth c H locs ls' X hA hH hS (LV.stored (v := .inl x) h'))
theorem aw_istore {i : Nat} {x : Int} (hd : decode cc pc = .ok (.istore i, 2)) (hn : i < nL) (kk : AW l D cA A ad y cc nL ret R Post cells slots lv V sz (pc + 2) (L.set i (some (.inl x))) st) : AW l D cA A ad y cc nL ret R Post cells slots lv V sz pc L (.inl x :: st) := by
  intro p e s m args below meth c H locs ls X hA hH hS hL
  exact lv_istore X.1 X.2.1 hd hL.has hn rfl (fun ls' h' => kk p e s m args below meth c H locs ls' X hA hH hS (LV.stored (v := .inl x) h'))
theorem aw_astore_n {k : Fin 4} {i : Nat} {x : Option (Nat × Nat)} (hd : decode cc pc = .ok (.astore_n k, 1)) (hi : (k : Nat) = i) (hn : i < nL) (kk : AW l D cA A ad y cc nL ret R Post cells slots lv V sz (pc + 1) (L.set i (some (.inr x))) st) : AW l D cA A ad y cc nL ret R Post cells slots lv V sz pc L (.inr x :: st) := by
  intro p e s m args below meth c H locs ls X hA hH hS hL
  cases x with
  | none => exact lv_astore_nN X.1 X.2.1 hd hi hL.has hn rfl (fun ls' h' => kk p e s m args below meth c H locs ls' X hA hH hS (LV.stored (v := .inr none) h'))
  | some q => exact lv_astore_n X.1 X.2.1 hd hi hL.has hn rfl (fun ls' h' => kk p e s m args below meth c H locs ls' X hA hH hS (LV.stored (v := .inr (some q)) h'))
theorem aw_astore {i : Nat} {x : Option (Nat × Nat)} (hd : decode cc pc = .ok (.astore i, 2)) (hn : i < nL) (kk : AW l D cA A ad y cc nL ret R Post cells slots lv V sz (pc + 2) (L.set i (some (.inr x))) st) : AW l D cA A ad y cc nL ret R Post cells slots lv V sz pc L (.inr x :: st) := by
  intro p e s m args below meth c H locs ls X hA hH hS hL
  cases x with
  | none => exact lv_astoreN X.1 X.2.1 hd hL.has hn rfl (fun ls' h' => kk p e s m args below meth c H locs ls' X hA hH hS (LV.stored (v := .inr none) h'))
  | some q => exact lv_astore X.1 X.2.1 hd hL.has hn rfl (fun ls' h' => kk p e s m args below meth c H locs ls' X hA hH hS (LV.stored (v := .inr (some q)) h'))
theorem aw_iinc {i : Nat} {n x : Int} (hd : decode cc pc = .ok (.iinc i n, 3)) (hl : L[i]? = some (some (.inl x))) (hn : i < nL) (kk : AW l D cA A ad y cc nL ret R Post cells slots lv V sz (pc + 3) (L.set i (some (.inl (x + n)))) st) : AW l D cA A ad y cc nL ret R Post cells slots lv V sz pc L st := by
  intro p e s m args below meth c H locs ls X hA hH hS hL
  obtain ⟨q, hq⟩ := List.getElem?_of_mem (lvL_mem (ad := ad) hl)
  exact lv_iinc (v := Int32.ofInt (x + n)) X.1 X.2.1 hd hL.has hq (Int32.ofInt_add x n).symm hn rfl (fun ls' h' => kk p e s m args below meth c H locs ls' X hA hH hS (LV.stored (v := .inl (x + n)) h'))
theorem aw_iadd {a b : Int} (hd : decode cc pc = .ok (.iadd, 1)) (k : AW l D cA A ad y cc nL ret R Post cells slots lv V sz (pc + 1) L (.inl (a + b) :: st)) : AW l D cA A ad y cc nL ret R Post cells slots lv V sz pc L (.inl b :: .inl a :: st) := by
  intro p e s m args below meth c H locs ls X hA hH hS hL
  refine lv_iadd X.1 X.2.1 hd ?_
  rw [← Int32.ofInt_add]
  exact k p e s m args below meth c H locs ls X hA hH hS hL
theorem aw_isub {a b : Int} (hd : decode cc pc = .ok (.isub, 1)) (k : AW l D cA A ad y cc nL ret R Post cells slots lv V sz (pc + 1) L (.inl (a - b) :: st)) : AW l D cA A ad y cc nL ret R Post cells slots lv V sz pc L (.inl b :: .inl a :: st) := by
  intro p e s m args below meth c H locs ls X hA hH hS hL
  refine lv_isub X.1 X.2.1 hd ?_
  rw [← Int32.ofInt_sub]
  exact k p e s m args below meth c H locs ls X hA hH hS hL
theorem aw_imul {a b : Int} (hd : decode cc pc = .ok (.imul, 1)) (k : AW l D cA A ad y cc nL ret R Post cells slots lv V sz (pc + 1) L (.inl (a * b) :: st)) : AW l D cA A ad y cc nL ret R Post cells slots lv V sz pc L (.inl b :: .inl a :: st) := by
  intro p e s m args below meth c H locs ls X hA hH hS hL
  refine lv_imul X.1 X.2.1 hd ?_
  rw [← Int32.ofInt_mul]
  exact k p e s m args below meth c H locs ls X hA hH hS hL
theorem rg_div {a b : Int} (h0 : 0 ≤ a) (ha : Rg a) (hb0 : 0 < b) (hb : Rg b) : Int32.ofInt a / Int32.ofInt b = Int32.ofInt (a / b) := by
  have e : a / b = a.tdiv b := (Int.tdiv_eq_ediv_of_nonneg h0).symm
  rw [e, Int32.ofInt_tdiv (show (-2147483648 : Int) ≤ a by omega) (show a ≤ (2147483647 : Int) by omega) (show (-2147483648 : Int) ≤ b by omega) (show b ≤ (2147483647 : Int) by omega)]
theorem aw_idiv {a b : Int} (hd : decode cc pc = .ok (.idiv, 1)) (h0 : 0 ≤ a) (ha : Rg a) (hb0 : 0 < b) (hb : Rg b) (k : AW l D cA A ad y cc nL ret R Post cells slots lv V sz (pc + 1) L (.inl (a / b) :: st)) : AW l D cA A ad y cc nL ret R Post cells slots lv V sz pc L (.inl b :: .inl a :: st) := by
  intro p e s m args below meth c H locs ls X hA hH hS hL
  refine lv_idiv X.1 X.2.1 hd (by rw [rg_0, rg_eq hb rg_z]; omega) ?_
  rw [rg_div h0 ha hb0 hb]
  exact k p e s m args below meth c H locs ls X hA hH hS hL
theorem aw_irem {a b : Int} (hd : decode cc pc = .ok (.irem, 1)) (h0 : 0 ≤ a) (ha : Rg a) (hb0 : 0 < b) (hb : Rg b) (k : AW l D cA A ad y cc nL ret R Post cells slots lv V sz (pc + 1) L (.inl (a % b) :: st)) : AW l D cA A ad y cc nL ret R Post cells slots lv V sz pc L (.inl b :: .inl a :: st) := by
  intro p e s m args below meth c H locs ls X hA hH hS hL
  refine lv_irem X.1 X.2.1 hd (by rw [rg_0, rg_eq hb rg_z]; omega) ?_
  rw [rg_div h0 ha hb0 hb, ← Int32.ofInt_mul, ← Int32.ofInt_sub, show a - a / b * b = a % b by rw [Int.emod_def, Int.mul_comm]]
  exact k p e s m args below meth c H locs ls X hA hH hS hL
theorem aw_dup {a : AV} (hd : decode cc pc = .ok (.dup, 1)) (k : AW l D cA A ad y cc nL ret R Post cells slots lv V sz (pc + 1) L (a :: a :: st)) : AW l D cA A ad y cc nL ret R Post cells slots lv V sz pc L (a :: st) := by
  intro p e s m args below meth c H locs ls X hA hH hS hL
  exact lv_dup X.1 X.2.1 hd (rl_cat ad a) (k p e s m args below meth c H locs ls X hA hH hS hL)
theorem aw_dup2 {a b : AV} (hd : decode cc pc = .ok (.dup2, 1)) (k : AW l D cA A ad y cc nL ret R Post cells slots lv V sz (pc + 1) L (a :: b :: a :: b :: st)) : AW l D cA A ad y cc nL ret R Post cells slots lv V sz pc L (a :: b :: st) := by
  intro p e s m args below meth c H locs ls X hA hH hS hL
  exact lv_dup2_11 X.1 X.2.1 hd (rl_cat ad a) (rl_cat ad b) (k p e s m args below meth c H locs ls X hA hH hS hL)
theorem aw_goto {off : Int} {tgt : Nat} (hd : decode cc pc = .ok (.goto off, 3)) (ht : (pc : Int) + off = (tgt : Int)) (k : AW l D cA A ad y cc nL ret R Post cells slots lv V sz tgt L st) : AW l D cA A ad y cc nL ret R Post cells slots lv V sz pc L st := by
  intro p e s m args below meth c H locs ls X hA hH hS hL
  exact lv_goto X.1 X.2.1 hd ht (k p e s m args below meth c H locs ls X hA hH hS hL)
theorem aw_icmp_eq {a b : Int} {off : Int} {tgt : Nat} (hd : decode cc pc = .ok (.if_icmp .eq off, 3)) (ht : (pc : Int) + off = (tgt : Int)) (ha : Rg a) (hb : Rg b) (kt : a = b → AW l D cA A ad y cc nL ret R Post cells slots lv V sz tgt L st) (kf : a ≠ b → AW l D cA A ad y cc nL ret R Post cells slots lv V sz (pc + 3) L st) : AW l D cA A ad y cc nL ret R Post cells slots lv V sz pc L (.inl b :: .inl a :: st) := by
  intro p e s m args below meth c H locs ls X hA hH hS hL
  exact lv_icmp_eq X.1 X.2.1 hd ht (fun h => (kt ((rg_eq ha hb).mp h) p e s m args below meth c H locs ls X hA hH hS hL)) (fun h => (kf (fun q => h ((rg_eq ha hb).mpr q)) p e s m args below meth c H locs ls X hA hH hS hL))
theorem aw_if_eq {a : Int} {off : Int} {tgt : Nat} (hd : decode cc pc = .ok (.ifCond .eq off, 3)) (ht : (pc : Int) + off = (tgt : Int)) (ha : Rg a) (kt : a = 0 → AW l D cA A ad y cc nL ret R Post cells slots lv V sz tgt L st) (kf : a ≠ 0 → AW l D cA A ad y cc nL ret R Post cells slots lv V sz (pc + 3) L st) : AW l D cA A ad y cc nL ret R Post cells slots lv V sz pc L (.inl a :: st) := by
  intro p e s m args below meth c H locs ls X hA hH hS hL
  have hb : Rg 0 := rg_z
  exact lv_if_eq X.1 X.2.1 hd ht (fun h => by rw [rg_0] at h; exact (kt ((rg_eq ha hb).mp h) p e s m args below meth c H locs ls X hA hH hS hL)) (fun h => by rw [rg_0] at h; exact (kf (fun q => h ((rg_eq ha hb).mpr q)) p e s m args below meth c H locs ls X hA hH hS hL))
theorem aw_icmp_ne {a b : Int} {off : Int} {tgt : Nat} (hd : decode cc pc = .ok (.if_icmp .ne off, 3)) (ht : (pc : Int) + off = (tgt : Int)) (ha : Rg a) (hb : Rg b) (kt : a ≠ b → AW l D cA A ad y cc nL ret R Post cells slots lv V sz tgt L st) (kf : a = b → AW l D cA A ad y cc nL ret R Post cells slots lv V sz (pc + 3) L st) : AW l D cA A ad y cc nL ret R Post cells slots lv V sz pc L (.inl b :: .inl a :: st) := by
  intro p e s m args below meth c H locs ls X hA hH hS hL
  exact lv_icmp_ne X.1 X.2.1 hd ht (fun h => (kt (fun q => h ((rg_eq ha hb).mpr q)) p e s m args below meth c H locs ls X hA hH hS hL)) (fun h => (kf ((rg_eq ha hb).mp h) p e s m args below meth c H locs ls X hA hH hS hL))
theorem aw_if_ne {a : Int} {off : Int} {tgt : Nat} (hd : decode cc pc = .ok (.ifCond .ne off, 3)) (ht : (pc : Int) + off = (tgt : Int)) (ha : Rg a) (kt : a ≠ 0 → AW l D cA A ad y cc nL ret R Post cells slots lv V sz tgt L st) (kf : a = 0 → AW l D cA A ad y cc nL ret R Post cells slots lv V sz (pc + 3) L st) : AW l D cA A ad y cc nL ret R Post cells slots lv V sz pc L (.inl a :: st) := by
  intro p e s m args below meth c H locs ls X hA hH hS hL
  have hb : Rg 0 := rg_z
  exact lv_if_ne X.1 X.2.1 hd ht (fun h => by rw [rg_0] at h; exact (kt (fun q => h ((rg_eq ha hb).mpr q)) p e s m args below meth c H locs ls X hA hH hS hL)) (fun h => by rw [rg_0] at h; exact (kf ((rg_eq ha hb).mp h) p e s m args below meth c H locs ls X hA hH hS hL))
theorem aw_icmp_lt {a b : Int} {off : Int} {tgt : Nat} (hd : decode cc pc = .ok (.if_icmp .lt off, 3)) (ht : (pc : Int) + off = (tgt : Int)) (ha : Rg a) (hb : Rg b) (kt : a < b → AW l D cA A ad y cc nL ret R Post cells slots lv V sz tgt L st) (kf : b ≤ a → AW l D cA A ad y cc nL ret R Post cells slots lv V sz (pc + 3) L st) : AW l D cA A ad y cc nL ret R Post cells slots lv V sz pc L (.inl b :: .inl a :: st) := by
  intro p e s m args below meth c H locs ls X hA hH hS hL
  exact lv_icmp_lt X.1 X.2.1 hd ht (fun h => (kt ((rg_lt ha hb).mp h) p e s m args below meth c H locs ls X hA hH hS hL)) (fun h => (kf (Int.not_lt.mp (fun q => h ((rg_lt ha hb).mpr q))) p e s m args below meth c H locs ls X hA hH hS hL))
theorem aw_if_lt {a : Int} {off : Int} {tgt : Nat} (hd : decode cc pc = .ok (.ifCond .lt off, 3)) (ht : (pc : Int) + off = (tgt : Int)) (ha : Rg a) (kt : a < 0 → AW l D cA A ad y cc nL ret R Post cells slots lv V sz tgt L st) (kf : 0 ≤ a → AW l D cA A ad y cc nL ret R Post cells slots lv V sz (pc + 3) L st) : AW l D cA A ad y cc nL ret R Post cells slots lv V sz pc L (.inl a :: st) := by
  intro p e s m args below meth c H locs ls X hA hH hS hL
  have hb : Rg 0 := rg_z
  exact lv_if_lt X.1 X.2.1 hd ht (fun h => by rw [rg_0] at h; exact (kt ((rg_lt ha hb).mp h) p e s m args below meth c H locs ls X hA hH hS hL)) (fun h => by rw [rg_0] at h; exact (kf (Int.not_lt.mp (fun q => h ((rg_lt ha hb).mpr q))) p e s m args below meth c H locs ls X hA hH hS hL))
theorem aw_icmp_ge {a b : Int} {off : Int} {tgt : Nat} (hd : decode cc pc = .ok (.if_icmp .ge off, 3)) (ht : (pc : Int) + off = (tgt : Int)) (ha : Rg a) (hb : Rg b) (kt : b ≤ a → AW l D cA A ad y cc nL ret R Post cells slots lv V sz tgt L st) (kf : a < b → AW l D cA A ad y cc nL ret R Post cells slots lv V sz (pc + 3) L st) : AW l D cA A ad y cc nL ret R Post cells slots lv V sz pc L (.inl b :: .inl a :: st) := by
  intro p e s m args below meth c H locs ls X hA hH hS hL
  exact lv_icmp_ge X.1 X.2.1 hd ht (fun h => (kt ((rg_le hb ha).mp h) p e s m args below meth c H locs ls X hA hH hS hL)) (fun h => (kf (Int.not_le.mp (fun q => h ((rg_le hb ha).mpr q))) p e s m args below meth c H locs ls X hA hH hS hL))
theorem aw_if_ge {a : Int} {off : Int} {tgt : Nat} (hd : decode cc pc = .ok (.ifCond .ge off, 3)) (ht : (pc : Int) + off = (tgt : Int)) (ha : Rg a) (kt : 0 ≤ a → AW l D cA A ad y cc nL ret R Post cells slots lv V sz tgt L st) (kf : a < 0 → AW l D cA A ad y cc nL ret R Post cells slots lv V sz (pc + 3) L st) : AW l D cA A ad y cc nL ret R Post cells slots lv V sz pc L (.inl a :: st) := by
  intro p e s m args below meth c H locs ls X hA hH hS hL
  have hb : Rg 0 := rg_z
  exact lv_if_ge X.1 X.2.1 hd ht (fun h => by rw [rg_0] at h; exact (kt ((rg_le hb ha).mp h) p e s m args below meth c H locs ls X hA hH hS hL)) (fun h => by rw [rg_0] at h; exact (kf (Int.not_le.mp (fun q => h ((rg_le hb ha).mpr q))) p e s m args below meth c H locs ls X hA hH hS hL))
theorem aw_icmp_gt {a b : Int} {off : Int} {tgt : Nat} (hd : decode cc pc = .ok (.if_icmp .gt off, 3)) (ht : (pc : Int) + off = (tgt : Int)) (ha : Rg a) (hb : Rg b) (kt : b < a → AW l D cA A ad y cc nL ret R Post cells slots lv V sz tgt L st) (kf : a ≤ b → AW l D cA A ad y cc nL ret R Post cells slots lv V sz (pc + 3) L st) : AW l D cA A ad y cc nL ret R Post cells slots lv V sz pc L (.inl b :: .inl a :: st) := by
  intro p e s m args below meth c H locs ls X hA hH hS hL
  exact lv_icmp_gt X.1 X.2.1 hd ht (fun h => (kt ((rg_lt hb ha).mp h) p e s m args below meth c H locs ls X hA hH hS hL)) (fun h => (kf (Int.not_lt.mp (fun q => h ((rg_lt hb ha).mpr q))) p e s m args below meth c H locs ls X hA hH hS hL))
theorem aw_if_gt {a : Int} {off : Int} {tgt : Nat} (hd : decode cc pc = .ok (.ifCond .gt off, 3)) (ht : (pc : Int) + off = (tgt : Int)) (ha : Rg a) (kt : 0 < a → AW l D cA A ad y cc nL ret R Post cells slots lv V sz tgt L st) (kf : a ≤ 0 → AW l D cA A ad y cc nL ret R Post cells slots lv V sz (pc + 3) L st) : AW l D cA A ad y cc nL ret R Post cells slots lv V sz pc L (.inl a :: st) := by
  intro p e s m args below meth c H locs ls X hA hH hS hL
  have hb : Rg 0 := rg_z
  exact lv_if_gt X.1 X.2.1 hd ht (fun h => by rw [rg_0] at h; exact (kt ((rg_lt hb ha).mp h) p e s m args below meth c H locs ls X hA hH hS hL)) (fun h => by rw [rg_0] at h; exact (kf (Int.not_lt.mp (fun q => h ((rg_lt hb ha).mpr q))) p e s m args below meth c H locs ls X hA hH hS hL))
theorem aw_icmp_le {a b : Int} {off : Int} {tgt : Nat} (hd : decode cc pc = .ok (.if_icmp .le off, 3)) (ht : (pc : Int) + off = (tgt : Int)) (ha : Rg a) (hb : Rg b) (kt : a ≤ b → AW l D cA A ad y cc nL ret R Post cells slots lv V sz tgt L st) (kf : b < a → AW l D cA A ad y cc nL ret R Post cells slots lv V sz (pc + 3) L st) : AW l D cA A ad y cc nL ret R Post cells slots lv V sz pc L (.inl b :: .inl a :: st) := by
  intro p e s m args below meth c H locs ls X hA hH hS hL
  exact lv_icmp_le X.1 X.2.1 hd ht (fun h => (kt ((rg_le ha hb).mp h) p e s m args below meth c H locs ls X hA hH hS hL)) (fun h => (kf (Int.not_le.mp (fun q => h ((rg_le ha hb).mpr q))) p e s m args below meth c H locs ls X hA hH hS hL))
theorem aw_if_le {a : Int} {off : Int} {tgt : Nat} (hd : decode cc pc = .ok (.ifCond .le off, 3)) (ht : (pc : Int) + off = (tgt : Int)) (ha : Rg a) (kt : a ≤ 0 → AW l D cA A ad y cc nL ret R Post cells slots lv V sz tgt L st) (kf : 0 < a → AW l D cA A ad y cc nL ret R Post cells slots lv V sz (pc + 3) L st) : AW l D cA A ad y cc nL ret R Post cells slots lv V sz pc L (.inl a :: st) := by
  intro p e s m args below meth c H locs ls X hA hH hS hL
  have hb : Rg 0 := rg_z
  exact lv_if_le X.1 X.2.1 hd ht (fun h => by rw [rg_0] at h; exact (kt ((rg_le ha hb).mp h) p e s m args below meth c H locs ls X hA hH hS hL)) (fun h => by rw [rg_0] at h; exact (kf (Int.not_le.mp (fun q => h ((rg_le ha hb).mpr q))) p e s m args below meth c H locs ls X hA hH hS hL))
end ENG
end
section
section ENG2
variable {l : Launch} {D : va_G} {cA : Nat → ClassId} {A : Nat → Prop} {ad : Ad} {y : MethodName} {cc : ByteArray} {nL : Nat} {ret : Option FieldType} {R : Room} {Post : Pst} {cells slots : Nat} {lv : Lw} {V : Vw} {sz pc : Nat} {L : List (Option AV)} {st : List AV}
theorem HP.obj {H : Heap} (h : HP D cA A ad lv V sz H) {σ i ci : Nat} (hk : Kd σ i = .inl ci) (hl : lv σ i = true) : t_OB (ad σ i) (D.1 ci) (Nc ci) (D.2 ci) H (fun k => rl ad (V σ i k)) := by
  have := (h.2.1 σ i hl).2
  rw [hk] at this
  exact this
theorem HP.arr {H : Heap} (h : HP D cA A ad lv V sz H) {σ i t : Nat} (hk : Kd σ i = .inr t) (hl : lv σ i = true) : H[ad σ i]? = some (arrV (cA t) (Ln σ i) (fun k => rl ad (V σ i k))) := by
  have := (h.2.1 σ i hl).2
  rw [hk] at this
  exact this
theorem aw_get {idx σ i ci k : Nat} {v : AV} (hd : decode cc pc = .ok (.getfield idx, 3)) (hf : FL y.cls idx ci k) (hc : ci < 7) (hkc : k < Nc ci) (hk : Kd σ i = .inl ci) (hl : lv σ i = true) (hv : V σ i k = v) (kk : AW l D cA A ad y cc nL ret R Post cells slots lv V sz (pc + 3) L (v :: st)) : AW l D cA A ad y cc nL ret R Post cells slots lv V sz pc L (.inr (some (σ, i)) :: st) := by
  intro p e s m args below meth c H locs ls X hA hH hS hL
  obtain ⟨hx, hb, hml, hr, hlk, hown, hts, hK, hnm⟩ := id X
  obtain ⟨cell, q1, q2, q3, q4⟩ := hH.obj hk hl
  obtain ⟨hSl, hfc, kC, hkC, hkind⟩ := hK.1.1 ci _ (cl_at hc)
  obtain ⟨cf, kf, fi, f, hi, hsl⟩ := hSl k hkc
  refine W.getf hx hb hown (hts _ hf) hi (u_facts hfc hkC (u_lays hts (cl_uw hc) hkc) hi).1 q1 (by rw [q3]; exact fun h => by cases h) (v := rl ad v) ?_ rfl rfl hd (kk p e s m args below meth c H locs ls X hA hH hS hL)
  rw [hsl, q4 k hkc]
  show some (rl ad (V σ i k)) = _
  rw [hv]
theorem aw_getN {idx σ i ci k : Nat} {v : AV} (hd : decode cc pc = .ok (.getfield idx, 3)) (hf : FN y.cls idx ci k) (hc : ci < 7) (hkc : k < Nc ci) (hk : Kd σ i = .inl ci) (hl : lv σ i = true) (hv : V σ i k = v) (kk : AW l D cA A ad y cc nL ret R Post cells slots lv V sz (pc + 3) L (v :: st)) : AW l D cA A ad y cc nL ret R Post cells slots lv V sz pc L (.inr (some (σ, i)) :: st) := by
  intro p e s m args below meth c H locs ls X hA hH hS hL
  obtain ⟨hx, hb, hml, hr, hlk, hown, hts, hK, hnm⟩ := id X
  obtain ⟨cell, q1, q2, q3, q4⟩ := hH.obj hk hl
  obtain ⟨hSl, hfc, kC, hkC, hkind⟩ := hK.1.1 ci _ (cl_at hc)
  obtain ⟨cf, kf, fi, f, hi, hsl⟩ := hSl k hkc
  obtain ⟨host, hf⟩ := hf
  refine va_Wgetf hx hb hown (va_Nw.use rfl (hK.2.1 _ hf)) hi (u_facts hfc hkC (u_lays hts (cl_uw hc) hkc) hi).1 q1 (by rw [q3]; exact fun h => by cases h) (v := rl ad v) ?_ rfl rfl hd (kk p e s m args below meth c H locs ls X hA hH hS hL)
  rw [hsl, q4 k hkc]
  show some (rl ad (V σ i k)) = _
  rw [hv]
/-- a value that a field or an array of a type may hold -/
def FT : FieldType → AV → Prop
  | .int, .inl _ => True
  | .boolean, .inl e => e = 0 ∨ e = 1
  | .object _, .inr _ => True
  | .array _, .inr _ => True
  | _, _ => False
theorem nb0 : narrow .boolean (.int (Int32.ofInt 0)) = .int (Int32.ofInt 0) ∧ fits .boolean (.int (Int32.ofInt 0)) = true := ⟨by decide +kernel, by decide +kernel⟩
theorem nb1 : narrow .boolean (.int (Int32.ofInt 1)) = .int (Int32.ofInt 1) ∧ fits .boolean (.int (Int32.ofInt 1)) = true := ⟨by decide +kernel, by decide +kernel⟩
theorem FT.ok {ty : FieldType} {v : AV} (h : FT ty v) (ad : Ad) : narrow ty (rl ad v) = rl ad v ∧ fits ty (rl ad v) = true := by
  rcases v with x | _ | q
  · cases ty <;> first | exact False.elim h | exact ⟨rfl, rfl⟩ | (rcases h with rfl | rfl <;> first | exact nb0 | exact nb1)
  · cases ty <;> first | exact False.elim h | exact ⟨rfl, rfl⟩
  · cases ty <;> first | exact False.elim h | exact ⟨rfl, rfl⟩
theorem cl_apart {s : State} {args : Array Value} (hts : ∀ w ∈ TB, w.before args s = true) (hK : KK D cA s) {ci : Nat} (hc : ci < 7) : ∀ x z, x < Nc ci → z < Nc ci → x ≠ z → (D.2 ci) x ≠ (D.2 ci) z := va_apart (own := RR ci) hts (cl_uw hc) (tyT ci) (cl_ty hc) (cl_nm hc) hK.1 (cl_at hc)
theorem aw_put {idx σ i ci k : Nat} {v : AV} (hd : decode cc pc = .ok (.putfield idx, 3)) (hf : FL y.cls idx ci k) (hc : ci < 7) (hkc : k < Nc ci) (hfin : (TT ci k).2.2.2 = false) (hk : Kd σ i = .inl ci) (hl : lv σ i = true) (hv : FT (tyT ci k) v) (kk : AW l D cA A ad y cc nL ret R Post cells slots lv (s3 V σ i k v) sz (pc + 3) L st) : AW l D cA A ad y cc nL ret R Post cells slots lv V sz pc L (v :: .inr (some (σ, i)) :: st) := by
  intro p e s m args below meth c H locs ls X hA hH hS hL
  obtain ⟨hx, hb, hml, hr, hlk, hown, hts, hK, hnm⟩ := id X
  obtain ⟨cell, q1, q2, q3, q4⟩ := hH.obj hk hl
  obtain ⟨hSl, hfc, kC, hkC, hkind⟩ := hK.1.1 ci _ (cl_at hc)
  obtain ⟨cf, kf, fi, f, hi, hsl⟩ := hSl k hkc
  have hlay := hts _ (cl_uw hc _ (u_in_lay hkc))
  unfold u_lay at hlay
  rw [if_neg (by rw [hfin]; decide)] at hlay
  have hst := (u_facts hfc hkC (u_lays hts (cl_uw hc) hkc) hi).1
  have h6 := u_store hfc hkC hkind hlay hi (cl_ty hc k hkc) (hv.ok ad).1 (hv.ok ad).2
  refine W.putK hx hb (f := f) ⟨hown, hts _ hf, ⟨_, _, _, hi⟩, hst⟩ (by rw [q2]; exact h6) q1 q3 (by rw [hsl]; exact k2_hasslot (q4 k hkc)) rfl rfl hd fun H' e1 e2 e3 => ?_
  rw [hsl] at e1
  refine kk p e s m args below meth c H' _ ls X hA (hH.set hl e2 e3 ?_) (hS.put e2 e3 (hH.2.1 σ i hl).1) hL
  rw [hk]
  exact ⟨_, e1, q2, q3, t_set q4 (cl_apart hts hK hc) hkc (rl ad v)⟩
theorem aw_putN {idx σ i ci k : Nat} {v : AV} (hd : decode cc pc = .ok (.putfield idx, 3)) (hf : FN y.cls idx ci k) (hc : ci < 7) (hkc : k < Nc ci) (hfin : (TT ci k).2.2.2 = false) (hk : Kd σ i = .inl ci) (hl : lv σ i = true) (hv : FT (tyT ci k) v) (kk : AW l D cA A ad y cc nL ret R Post cells slots lv (s3 V σ i k v) sz (pc + 3) L st) : AW l D cA A ad y cc nL ret R Post cells slots lv V sz pc L (v :: .inr (some (σ, i)) :: st) := by
  intro p e s m args below meth c H locs ls X hA hH hS hL
  obtain ⟨hx, hb, hml, hr, hlk, hown, hts, hK, hnm⟩ := id X
  obtain ⟨cell, q1, q2, q3, q4⟩ := hH.obj hk hl
  obtain ⟨hSl, hfc, kC, hkC, hkind⟩ := hK.1.1 ci _ (cl_at hc)
  obtain ⟨cf, kf, fi, f, hi, hsl⟩ := hSl k hkc
  obtain ⟨host, hf⟩ := hf
  have hlay := hts _ (cl_uw hc _ (u_in_lay hkc))
  unfold u_lay at hlay
  rw [if_neg (by rw [hfin]; decide)] at hlay
  have hst := (u_facts hfc hkC (u_lays hts (cl_uw hc) hkc) hi).1
  have h6 := u_store hfc hkC hkind hlay hi (cl_ty hc k hkc) (hv.ok ad).1 (hv.ok ad).2
  refine va_WputK hx hb (f := f) hown (va_Nw.use rfl (hK.2.1 _ hf)) hi hst (by rw [q2]; exact h6) q1 q3 (by rw [hsl]; exact k2_hasslot (q4 k hkc)) rfl rfl hd fun H' e1 e2 e3 => ?_
  rw [hsl] at e1
  refine kk p e s m args below meth c H' _ ls X hA (hH.set hl e2 e3 ?_) (hS.put e2 e3 (hH.2.1 σ i hl).1) hL
  rw [hk]
  exact ⟨_, e1, q2, q3, t_set q4 (cl_apart hts hK hc) hkc (rl ad v)⟩
/-- a final field, in a constructor of its class -/
theorem aw_putF {idx σ i ci k : Nat} {v : AV} (hd : decode cc pc = .ok (.putfield idx, 3)) (hf : FL y.cls idx ci k) (hc : ci < 7) (hkc : k < Nc ci) (hfin : (TT ci k).2.2.2 = true) (hdecl : (TT ci k).1 = y.cls) (hini : y.name = "<init>") (hk : Kd σ i = .inl ci) (hl : lv σ i = true) (hv : FT (tyT ci k) v) (kk : AW l D cA A ad y cc nL ret R Post cells slots lv (s3 V σ i k v) sz (pc + 3) L st) : AW l D cA A ad y cc nL ret R Post cells slots lv V sz pc L (v :: .inr (some (σ, i)) :: st) := by
  intro p e s m args below meth c H locs ls X hA hH hS hL
  obtain ⟨hx, hb, hml, hr, hlk, hown, hts, hK, hnm⟩ := id X
  obtain ⟨cell, q1, q2, q3, q4⟩ := hH.obj hk hl
  obtain ⟨hSl, hfc, kC, hkC, hkind⟩ := hK.1.1 ci _ (cl_at hc)
  obtain ⟨cf, kf, fi, f, hi, hsl⟩ := hSl k hkc
  have hlay := hts _ (cl_uw hc _ (u_in_lay hkc))
  unfold u_lay at hlay
  rw [if_pos hfin] at hlay
  have hst := (u_facts hfc hkC (u_lays hts (cl_uw hc) hkc) hi).1
  have hcf : m.cls = cf := by
    obtain ⟨_, _, c', _, _, _, -, -, hf', -, -, -, hown2, -⟩ := Cond.laysFinal_spec hlay
    have e1 : c' = cf := by have := hi.symm.trans hf'; simp at this; exact this.1.symm
    rw [hdecl] at hown2
    rw [← e1]; exact Option.some.inj (hown.symm.trans hown2)
  have h6 := u_fits hfc hkC hkind (Or.inr hlay) hi (cl_ty hc k hkc) (hv.ok ad).1 (hv.ok ad).2
  refine W.putFinK hx hb hown (hts _ hf) hi hst hcf (hnm.trans hini) (by rw [q2]; exact h6) q1 q3 (by rw [hsl]; exact k2_hasslot (q4 k hkc)) rfl rfl hd fun H' e1 e2 e3 => ?_
  rw [hsl] at e1
  refine kk p e s m args below meth c H' _ ls X hA (hH.set hl e2 e3 ?_) (hS.put e2 e3 (hH.2.1 σ i hl).1) hL
  rw [hk]
  exact ⟨_, e1, q2, q3, t_set q4 (cl_apart hts hK hc) hkc (rl ad v)⟩
theorem KK.arr {s : State} (hK : KK D cA s) {t : Nat} (ht : t < 5) (n : Nat) (f : Nat → Value) : s.isArrayOf (arrV (cA t) n f) (aty t) := (hK.1.2 t _ (tyA_at cA ht)).1 n f
theorem aw_iald {σ i : Nat} {x : Int} {v : AV} (hd : decode cc pc = .ok (.iaload, 1)) (hk : Kd σ i = .inr 0) (hl : lv σ i = true) (h0 : 0 ≤ x) (h1 : x < (Ln σ i : Nat)) (hv : V σ i x.toNat = v) (kk : AW l D cA A ad y cc nL ret R Post cells slots lv V sz (pc + 1) L (v :: st)) : AW l D cA A ad y cc nL ret R Post cells slots lv V sz pc L (.inl x :: .inr (some (σ, i)) :: st) := by
  intro p e s m args below meth c H locs ls X hA hH hS hL
  obtain ⟨hx, hb, hml, hr, hlk, hown, hts, hK, hnm⟩ := id X
  have hle := Ln_le σ i
  have hin := rg_in h0 h1 (by omega)
  refine W.iald (v := rl ad v) hx hb (hH.arr hk hl) (hK.arr (t := 0) (by decide) _ _) (fun q => by cases q) (by rw [arrV_size]; exact hin) ?_ rfl rfl hd (kk p e s m args below meth c H locs ls X hA hH hS hL)
  rw [rg_clamp ⟨by omega, by omega⟩, arrV_read _ _ (by omega), hv]
theorem aw_zald {σ i : Nat} {x : Int} {v : AV} (hd : decode cc pc = .ok (.baload, 1)) (hk : Kd σ i = .inr 1) (hl : lv σ i = true) (h0 : 0 ≤ x) (h1 : x < (Ln σ i : Nat)) (hv : V σ i x.toNat = v) (kk : AW l D cA A ad y cc nL ret R Post cells slots lv V sz (pc + 1) L (v :: st)) : AW l D cA A ad y cc nL ret R Post cells slots lv V sz pc L (.inl x :: .inr (some (σ, i)) :: st) := by
  intro p e s m args below meth c H locs ls X hA hH hS hL
  obtain ⟨hx, hb, hml, hr, hlk, hown, hts, hK, hnm⟩ := id X
  have hle := Ln_le σ i
  have hin := rg_in h0 h1 (by omega)
  refine W.zald (v := rl ad v) hx hb (hH.arr hk hl) (hK.arr (t := 1) (by decide) _ _) (fun q => by cases q) (by rw [arrV_size]; exact hin) ?_ rfl rfl hd (kk p e s m args below meth c H locs ls X hA hH hS hL)
  rw [rg_clamp ⟨by omega, by omega⟩, arrV_read _ _ (by omega), hv]
theorem aty_ref {t : Nat} (h2 : 2 ≤ t) : (aty t).isReference = true := by
  match t, h2 with
  | 2, _ => rfl
  | 3, _ => rfl
  | (t + 4), _ => rfl
theorem aw_aald {σ i t : Nat} {x : Int} {v : AV} (hd : decode cc pc = .ok (.aaload, 1)) (hk : Kd σ i = .inr t) (ht : t < 5) (h2 : 2 ≤ t) (hl : lv σ i = true) (h0 : 0 ≤ x) (h1 : x < (Ln σ i : Nat)) (hv : V σ i x.toNat = v) (kk : AW l D cA A ad y cc nL ret R Post cells slots lv V sz (pc + 1) L (v :: st)) : AW l D cA A ad y cc nL ret R Post cells slots lv V sz pc L (.inl x :: .inr (some (σ, i)) :: st) := by
  intro p e s m args below meth c H locs ls X hA hH hS hL
  obtain ⟨hx, hb, hml, hr, hlk, hown, hts, hK, hnm⟩ := id X
  have hle := Ln_le σ i
  have hin := rg_in h0 h1 (by omega)
  refine W.aald (v := rl ad v) hx hb (hH.arr hk hl) (hK.arr ht _ _) (aty_ref h2) (fun q => by cases q) (by rw [arrV_size]; exact hin) ?_ rfl rfl hd (kk p e s m args below meth c H locs ls X hA hH hS hL)
  rw [rg_clamp ⟨by omega, by omega⟩, arrV_read _ _ (by omega), hv]
theorem aw_alen {σ i t : Nat} (hd : decode cc pc = .ok (.arraylength, 1)) (hk : Kd σ i = .inr t) (ht : t < 5) (hl : lv σ i = true) (kk : AW l D cA A ad y cc nL ret R Post cells slots lv V sz (pc + 1) L (.inl (Ln σ i : Nat) :: st)) : AW l D cA A ad y cc nL ret R Post cells slots lv V sz pc L (.inr (some (σ, i)) :: st) := by
  intro p e s m args below meth c H locs ls X hA hH hS hL
  obtain ⟨hx, hb, hml, hr, hlk, hown, hts, hK, hnm⟩ := id X
  refine W.alen (n := Int32.ofInt (Ln σ i : Nat)) hx hb (hH.arr hk hl) (hK.arr ht _ _) ?_ rfl rfl hd (kk p e s m args below meth c H locs ls X hA hH hS hL)
  rw [arrV_size, Int32.ofInt_eq_ofNat]
theorem arr_upd (cI : ClassId) (n : Nat) (f : Nat → Value) (x : Int) (h0 : 0 ≤ x) (hr : Rg x) (w : Value) : (arrV cI n f).setSlot (Int32.ofInt x).toNatClampNeg w = arrV cI n (updV f x.toNat w) := by
  rw [arrV_store, rg_clamp hr]
theorem aw_iast {σ i : Nat} {x v : Int} (hd : decode cc pc = .ok (.iastore, 1)) (hk : Kd σ i = .inr 0) (hl : lv σ i = true) (h0 : 0 ≤ x) (h1 : x < (Ln σ i : Nat)) (kk : AW l D cA A ad y cc nL ret R Post cells slots lv (s3 V σ i x.toNat (.inl v)) sz (pc + 1) L st) : AW l D cA A ad y cc nL ret R Post cells slots lv V sz pc L (.inl v :: .inl x :: .inr (some (σ, i)) :: st) := by
  intro p e s m args below meth c H locs ls X hA hH hS hL
  obtain ⟨hx, hb, hml, hr, hlk, hown, hts, hK, hnm⟩ := id X
  have hle := Ln_le σ i
  have hin := rg_in h0 h1 (by omega)
  refine W.iast hx hb (hH.arr hk hl) (hK.arr (t := 0) (by decide) _ _) (fun q => by cases q) (by rw [arrV_size]; exact hin) rfl rfl hd fun H' e1 e2 e3 => ?_
  refine kk p e s m args below meth c H' _ ls X hA (hH.set hl e2 e3 ?_) (hS.put e2 e3 (hH.2.1 σ i hl).1) hL
  rw [hk]
  show H'[ad σ i]? = _
  rw [e1, arr_upd _ _ _ _ h0 ⟨by omega, by omega⟩]
  rfl
theorem aw_zast {σ i : Nat} {x v : Int} (hd : decode cc pc = .ok (.bastore, 1)) (hk : Kd σ i = .inr 1) (hl : lv σ i = true) (h0 : 0 ≤ x) (h1 : x < (Ln σ i : Nat)) (hv : v = 0 ∨ v = 1) (kk : AW l D cA A ad y cc nL ret R Post cells slots lv (s3 V σ i x.toNat (.inl v)) sz (pc + 1) L st) : AW l D cA A ad y cc nL ret R Post cells slots lv V sz pc L (.inl v :: .inl x :: .inr (some (σ, i)) :: st) := by
  intro p e s m args below meth c H locs ls X hA hH hS hL
  obtain ⟨hx, hb, hml, hr, hlk, hown, hts, hK, hnm⟩ := id X
  have hle := Ln_le σ i
  have hin := rg_in h0 h1 (by omega)
  refine W.zast hx hb (hH.arr hk hl) (hK.arr (t := 1) (by decide) _ _) (fun q => by cases q) (by rw [arrV_size]; exact hin) rfl rfl hd fun H' e1 e2 e3 => ?_
  refine kk p e s m args below meth c H' _ ls X hA (hH.set hl e2 e3 ?_) (hS.put e2 e3 (hH.2.1 σ i hl).1) hL
  rw [hk]
  show H'[ad σ i]? = _
  have hn : narrow .boolean (.int (Int32.ofInt v)) = .int (Int32.ofInt v) := by rcases hv with rfl | rfl <;> decide +kernel
  rw [e1, arr_upd _ _ _ _ h0 ⟨by omega, by omega⟩]
  first | rfl | (rw [hn]; rfl) | (simp only [narrow] at hn; rw [hn]; rfl) | (congr 2)
/-- the class of the elements of an array of references -/
def eCl : Nat → Nat
  | 2 => 4
  | 3 => 3
  | _ => 0
theorem aw_aast {σ i t τ j : Nat} {x : Int} (hd : decode cc pc = .ok (.aastore, 1)) (hk : Kd σ i = .inr t) (ht : t < 5) (h2 : 2 ≤ t) (hl : lv σ i = true) (h0 : 0 ≤ x) (h1 : x < (Ln σ i : Nat)) (hkv : Kd τ j = .inl (eCl t)) (hlv : lv τ j = true) (kk : AW l D cA A ad y cc nL ret R Post cells slots lv (s3 V σ i x.toNat (.inr (some (τ, j)))) sz (pc + 1) L st) : AW l D cA A ad y cc nL ret R Post cells slots lv V sz pc L (.inr (some (τ, j)) :: .inl x :: .inr (some (σ, i)) :: st) := by
  intro p e s m args below meth c H locs ls X hA hH hS hL
  obtain ⟨hx, hb, hml, hr, hlk, hown, hts, hK, hnm⟩ := id X
  have hle := Ln_le σ i
  have hin := rg_in h0 h1 (by omega)
  obtain ⟨cellV, g1, g2, g3, -⟩ := hH.obj hkv hlv
  have hat : aty t = .object (RR (eCl t)) := by
    match t, ht, h2 with
    | 2, _, _ => rfl
    | 3, _, _ => rfl
    | 4, _, _ => rfl
  have he : eCl t < 7 := by
    match t, ht, h2 with
    | 2, _, _ => decide
    | 3, _, _ => decide
    | 4, _, _ => decide
  have hcls := (hK.1.1 (eCl t) _ (cl_at he)).2
  have hra := (hK.1.2 t _ (tyA_at cA ht)).2
  rw [hat] at hra
  obtain ⟨kA, comp, k1, k2, k3, -⟩ := hra
  have hcomp : comp = D.1 (eCl t) := Option.some.inj (k3.symm.trans hcls.1)
  subst hcomp
  obtain ⟨kC, hkC, -⟩ := hcls.2
  refine W.aast hx hb (hH.arr hk hl) (fun q h => by cases h) (fun h => by cases h) k1 k2 rfl hkC ⟨fun q => hin (Or.inl q), by rw [arrV_size]; exact Nat.not_le.mp fun q => hin (Or.inr q)⟩ g1 (fun q h => by rw [g3] at h; cases h) (by rw [g2]; exact hkC) (by rw [g2]; exact va_assign hcls) rfl rfl hd fun H' e1 e2 e3 => ?_
  refine kk p e s m args below meth c H' _ ls X hA (hH.set hl e2 e3 ?_) (hS.put e2 e3 (hH.2.1 σ i hl).1) hL
  rw [hk]
  show H'[ad σ i]? = _
  rw [e1, arr_upd _ _ _ _ h0 ⟨by omega, by omega⟩]
  rfl
theorem aw_aastN {σ i t : Nat} {x : Int} (hd : decode cc pc = .ok (.aastore, 1)) (hk : Kd σ i = .inr t) (ht : t < 5) (h2 : 2 ≤ t) (hl : lv σ i = true) (h0 : 0 ≤ x) (h1 : x < (Ln σ i : Nat)) (kk : AW l D cA A ad y cc nL ret R Post cells slots lv (s3 V σ i x.toNat (.inr none)) sz (pc + 1) L st) : AW l D cA A ad y cc nL ret R Post cells slots lv V sz pc L (.inr none :: .inl x :: .inr (some (σ, i)) :: st) := by
  intro p e s m args below meth c H locs ls X hA hH hS hL
  obtain ⟨hx, hb, hml, hr, hlk, hown, hts, hK, hnm⟩ := id X
  have hle := Ln_le σ i
  have hin := rg_in h0 h1 (by omega)
  have hat : aty t = .object (RR (eCl t)) := by
    match t, ht, h2 with
    | 2, _, _ => rfl
    | 3, _, _ => rfl
    | 4, _, _ => rfl
  have har := hK.arr ht (Ln σ i) (fun k => rl ad (V σ i k))
  rw [hat] at har
  refine va_WaastN hx hb (hH.arr hk hl) har (fun h => by cases h) (by rw [arrV_size]; exact hin) rfl rfl hd fun H' e1 e2 e3 => ?_
  refine kk p e s m args below meth c H' _ ls X hA (hH.set hl e2 e3 ?_) (hS.put e2 e3 (hH.2.1 σ i hl).1) hL
  rw [hk]
  show H'[ad σ i]? = _
  rw [e1, arr_upd _ _ _ _ h0 ⟨by omega, by omega⟩]
  rfl
end ENG2
end
section
section ENG3
variable {l : Launch} {D : va_G} {cA : Nat → ClassId} {A : Nat → Prop} {ad : Ad} {y : MethodName} {cc : ByteArray} {nL : Nat} {ret : Option FieldType} {R : Room} {Post : Pst} {cells slots : Nat} {lv : Lw} {V : Vw} {sz pc : Nat} {L : List (Option AV)} {st : List AV}
/-! null tests, switches -/
theorem aw_ifnull_N {off : Int} {tgt : Nat} (hd : decode cc pc = .ok (.ifnull off, 3)) (ht : (pc : Int) + off = (tgt : Int)) (k : AW l D cA A ad y cc nL ret R Post cells slots lv V sz tgt L st) : AW l D cA A ad y cc nL ret R Post cells slots lv V sz pc L (.inr none :: st) := by
  intro p e s m args below meth c H locs ls X hA hH hS hL
  exact lv_ifnullN X.1 X.2.1 hd ht (k p e s m args below meth c H locs ls X hA hH hS hL)
theorem aw_ifnull_S {off : Int} {q : Nat × Nat} (hd : decode cc pc = .ok (.ifnull off, 3)) (k : AW l D cA A ad y cc nL ret R Post cells slots lv V sz (pc + 3) L st) : AW l D cA A ad y cc nL ret R Post cells slots lv V sz pc L (.inr (some q) :: st) := by
  intro p e s m args below meth c H locs ls X hA hH hS hL
  exact lv_ifnull X.1 X.2.1 hd (k p e s m args below meth c H locs ls X hA hH hS hL)
theorem aw_ifnonnull_N {off : Int} (hd : decode cc pc = .ok (.ifnonnull off, 3)) (k : AW l D cA A ad y cc nL ret R Post cells slots lv V sz (pc + 3) L st) : AW l D cA A ad y cc nL ret R Post cells slots lv V sz pc L (.inr none :: st) := by
  intro p e s m args below meth c H locs ls X hA hH hS hL
  exact lv_ifnonnullN X.1 X.2.1 hd (k p e s m args below meth c H locs ls X hA hH hS hL)
theorem aw_ifnonnull_S {off : Int} {tgt : Nat} {q : Nat × Nat} (hd : decode cc pc = .ok (.ifnonnull off, 3)) (ht : (pc : Int) + off = (tgt : Int)) (k : AW l D cA A ad y cc nL ret R Post cells slots lv V sz tgt L st) : AW l D cA A ad y cc nL ret R Post cells slots lv V sz pc L (.inr (some q) :: st) := by
  intro p e s m args below meth c H locs ls X hA hH hS hL
  exact lv_ifnonnull X.1 X.2.1 hd ht (k p e s m args below meth c H locs ls X hA hH hS hL)
theorem aw_tableIn {dflt lo hi : Int} {offs : Array Int} {len : Nat} {x : Int} {off : Int} {tgt : Nat} (hd : decode cc pc = .ok (.tableswitch dflt lo hi offs, len)) (hx : Rg x) (h1 : lo ≤ x) (h2 : x ≤ hi) (ho : offs[(x - lo).toNat]? = some off) (ht : (pc : Int) + off = (tgt : Int)) (k : AW l D cA A ad y cc nL ret R Post cells slots lv V sz tgt L st) : AW l D cA A ad y cc nL ret R Post cells slots lv V sz pc L (.inl x :: st) := by
  intro p e s m args below meth c H locs ls X hA hH hS hL
  exact lv_tableIn X.1 X.2.1 hd (by rw [rg_toInt hx]; omega) (by rw [rg_toInt hx]; omega) (by rw [rg_toInt hx]; exact ho) ht (k p e s m args below meth c H locs ls X hA hH hS hL)
theorem aw_tableOut {dflt lo hi : Int} {offs : Array Int} {len : Nat} {x : Int} {tgt : Nat} (hd : decode cc pc = .ok (.tableswitch dflt lo hi offs, len)) (hx : Rg x) (h : x < lo ∨ hi < x) (ht : (pc : Int) + dflt = (tgt : Int)) (k : AW l D cA A ad y cc nL ret R Post cells slots lv V sz tgt L st) : AW l D cA A ad y cc nL ret R Post cells slots lv V sz pc L (.inl x :: st) := by
  intro p e s m args below meth c H locs ls X hA hH hS hL
  exact lv_tableOut X.1 X.2.1 hd (by rw [rg_toInt hx]; exact h) ht (k p e s m args below meth c H locs ls X hA hH hS hL)
/-! ends -/
theorem QC.intro {H : Heap} {s t : State} {args : Array Value} {locs : List Loc} {r : Option AV} (hH : HP D cA A ad lv V sz H) (hS : va_S A s.heap H locs) (ht : t.heap = H) (hp : Post r lv V sz) : QC D cA A ad Post args s (.returned (r.map (rl ad))) t := ⟨⟨r, lv, V, sz, rfl, hp, by rw [ht]; exact hH⟩, hS.F ht⟩
theorem aw_iret {x : Int} (hd : decode cc pc = .ok (.ireturn, 1)) (hr : ret = some .int) (hc : cells ≤ R.cells) (hs : slots ≤ R.slots) (hp : Post (some (.inl x)) lv V sz) : AW l D cA A ad y cc nL ret R Post cells slots lv V sz pc L [.inl x] := by
  intro p e s m args below meth c H locs ls X hA hH hS hL
  refine W.widen hc hs ?_
  exact W.iret X.1 X.2.1 (X.2.2.2.1.trans hr) (fun t ht _ => QC.intro (r := some (.inl x)) hH hS ht hp) hS.2.2 hd X.2.2.2.2.1
theorem aw_zret {x : Int} (hd : decode cc pc = .ok (.ireturn, 1)) (hr : ret = some .boolean) (hx : x = 0 ∨ x = 1) (hc : cells ≤ R.cells) (hs : slots ≤ R.slots) (hp : Post (some (.inl x)) lv V sz) : AW l D cA A ad y cc nL ret R Post cells slots lv V sz pc L [.inl x] := by
  intro p e s m args below meth c H locs ls X hA hH hS hL
  refine W.widen hc hs ?_
  exact W.zret X.1 X.2.1 (X.2.2.2.1.trans hr) (by rcases hx with rfl | rfl <;> first | exact nb0.1 | exact nb1.1) (fun t ht _ => QC.intro (r := some (.inl x)) hH hS ht hp) hS.2.2 hd X.2.2.2.2.1
theorem aw_vret (hd : decode cc pc = .ok (.return_, 1)) (hr : ret = none) (hc : cells ≤ R.cells) (hs : slots ≤ R.slots) (hp : Post none lv V sz) : AW l D cA A ad y cc nL ret R Post cells slots lv V sz pc L [] := by
  intro p e s m args below meth c H locs ls X hA hH hS hL
  refine W.widen hc hs ?_
  exact W.vret X.1 X.2.1 (X.2.2.2.1.trans hr) (fun t ht _ => QC.intro (r := none) hH hS ht hp) hS.2.2 hd X.2.2.2.2.1
theorem aw_aret {x : Option (Nat × Nat)} {nm : String} (hd : decode cc pc = .ok (.areturn, 1)) (hr : ret = some (.object nm)) (hc : cells ≤ R.cells) (hs : slots ≤ R.slots) (hp : Post (some (.inr x)) lv V sz) : AW l D cA A ad y cc nL ret R Post cells slots lv V sz pc L [.inr x] := by
  intro p e s m args below meth c H locs ls X hA hH hS hL
  refine W.widen hc hs ?_
  exact W.aret X.1 X.2.1 (X.2.2.2.1.trans hr) (Or.inl ⟨nm, rfl⟩) (by cases x with | none => exact Or.inl rfl | some q => exact Or.inr ⟨_, rfl⟩) (fun t ht _ => QC.intro (r := some (.inr x)) hH hS ht hp) hS.2.2 hd X.2.2.2.2.1
/-! new cells -/
def dfl : FieldType → AV
  | .object _ => .inr none
  | .array _ => .inr none
  | _ => .inl 0
theorem dfl_ok (ad : Ad) {ty : FieldType} (h : ty ≠ .long ∧ ty ≠ .float ∧ ty ≠ .double) : defaultValue ty = rl ad (dfl ty) := by
  cases ty <;> first | rfl | (simp at h; done) | (show Value.int 0 = Value.int (Int32.ofInt 0); rw [← rg_0])
theorem cl_plain {ci : Nat} (h : ci < 7) : ∀ k, k < Nc ci → (tyT ci k) ≠ .long ∧ (tyT ci k) ≠ .float ∧ (tyT ci k) ≠ .double := lt7 (P := fun ci => ∀ k, k < Nc ci → (tyT ci k) ≠ .long ∧ (tyT ci k) ≠ .float ∧ (tyT ci k) ≠ .double) (by decide +kernel) (by decide +kernel) (by decide +kernel) (by decide +kernel) (by decide +kernel) (by decide +kernel) (by decide +kernel) ci h
theorem va_S.push {H0 H H1 : Heap} {locs : List Loc} {n : Nat} (hS : va_S A H0 H locs) (hz : H.size = n) (z : H1.size = n + 1) (o : ∀ q, q < n → H1[q]? = H[q]?) : va_S A H0 H1 locs := ⟨Nat.le_trans hS.1 (by omega), fun q h1 h2 => (o q (by have := hS.1; omega)).trans (hS.2.1 q h1 h2), hS.2.2⟩
theorem aw_new {idx ci σ i : Nat} (hd : decode cc pc = .ok (.new idx, 3)) (hcl : Cond.classLink y.cls idx (RR ci) ∈ TB) (hci : Cond.instantiable (RR ci) (Nc ci) ∈ TB) (hin : Cond.initialized (RR ci) ∈ TB) (hc : ci < 7) (hk : Kd σ i = .inl ci) (had : ad σ i = sz) (hcells : cells + 1 ≤ R.cells) (hslots : slots + Nc ci ≤ R.slots) (kk : AW l D cA A ad y cc nL ret R Post (cells + 1) (slots + Nc ci) (l2 lv σ i) (sC V σ i (fun k => dfl (tyT ci k))) (sz + 1) (pc + 3) L (.inr (some (σ, i)) :: st)) : AW l D cA A ad y cc nL ret R Post cells slots lv V sz pc L st := by
  intro p e s m args below meth c H locs ls X hA hH hS hL
  obtain ⟨hx, hb, hml, hr, hlk, hown, hts, hK, hnm⟩ := id X
  have hKn := hK.1.1 ci _ (cl_at hc)
  refine W.newcK hx hb hown (hts _ hcl) (hts _ hci) (hts _ hin) rfl hd hcells hslots hKn.2.1 hH.1 fun H1 kC hkC e1 z1 o1 => ?_
  have hAs : A sz := hA sz (by have := hS.1; rw [hH.1] at this; exact this)
  have hob := (u_born (tyT ci) hts (cl_uw hc) hKn hkC e1 (cl_ty hc)).to (V' := fun k => rl ad (dfl (tyT ci k))) (fun k hk => dfl_ok ad (cl_plain hc k hk))
  have k2 := kk p e s m args below meth c H1 locs ls X hA (hH.push had hAs z1 o1 (by rw [hk]; exact hob)) (hS.push hH.1 z1 o1) hL
  simp only [List.map_cons, rl, had] at k2
  exact k2
theorem aw_newa {σ i t : Nat} {at_ : ArrayType} {x : Int} (hd : decode cc pc = .ok (.newarray at_, 2)) (hty : newarray.typeOf at_ = aty t) (hac : Cond.arrayClass (aty t) ∈ TB) (ht : t < 2) (hk : Kd σ i = .inr t) (hx : x = (Ln σ i : Nat)) (had : ad σ i = sz) (hcells : cells + 1 ≤ R.cells) (hslots : slots + Ln σ i ≤ R.slots) (kk : AW l D cA A ad y cc nL ret R Post (cells + 1) (slots + Ln σ i) (l2 lv σ i) (sC V σ i (fun _ => .inl 0)) (sz + 1) (pc + 2) L (.inr (some (σ, i)) :: st)) : AW l D cA A ad y cc nL ret R Post cells slots lv V sz pc L (.inl x :: st) := by
  intro p e s m args below meth c H locs ls X hA hH hS hL
  obtain ⟨hx', hb, hml, hr, hlk, hown, hts, hK, hnm⟩ := id X
  subst hx
  have hle := Ln_le σ i
  have hrg : Rg ((Ln σ i : Nat) : Int) := ⟨by omega, by omega⟩
  have hAs : A sz := hA sz (by have := hS.1; rw [hH.1] at this; exact this)
  refine va_newaK (N := Ln σ i) hx' hb (by rw [hty]; exact hts _ hac) rfl hd rfl (by rw [rg_0, rg_lt hrg rg_z]; omega) (by rw [rg_clamp hrg]; rfl) ?_ hcells hslots hH.1 fun H1 cB e1 z1 o1 hAr hNm => ?_
  · rw [hty]
    have : componentBytes (aty t) ≤ 4 := by
      match t, ht with
      | 0, _ => decide
      | 1, _ => decide
    have := Nat.mul_le_mul hle this
    omega
  · have hcB : cB = cA t := by
      have h1 := (hK.1.2 t _ (tyA_at cA (show t < 5 by omega))).2
      have h2 : s.vm.findClass ("[" ++ (aty t).toString) = some (cA t) := by
        match t, ht, h1 with
        | 0, _, h1 => exact h1
        | 1, _, h1 => exact h1
      rw [hty] at hNm
      exact Option.some.inj (hNm.symm.trans h2)
    subst hcB
    have hdv : defaultValue (newarray.typeOf at_) = rl ad (.inl 0) := by
      rw [hty]
      match t, ht with
      | 0, _ => exact dfl_ok ad (ty := .int) (by decide)
      | 1, _ => exact dfl_ok ad (ty := .boolean) (by decide)
    rw [hdv] at e1
    have k2 := kk p e s m args below meth c H1 locs ls X hA (hH.push had hAs z1 o1 (by rw [hk]; exact e1)) (hS.push hH.1 z1 o1) hL
    simp only [List.map_cons, rl, had] at k2
    exact k2
theorem aw_anewa {σ i t idx : Nat} {x : Int} (hd : decode cc pc = .ok (.anewarray idx, 3)) (hcl : Cond.classLink y.cls idx (RR (eCl t)) ∈ TB) (ht : t < 5) (h2 : 2 ≤ t) (hk : Kd σ i = .inr t) (hx : x = (Ln σ i : Nat)) (had : ad σ i = sz) (hcells : cells + 1 ≤ R.cells) (hslots : slots + Ln σ i ≤ R.slots) (kk : AW l D cA A ad y cc nL ret R Post (cells + 1) (slots + Ln σ i) (l2 lv σ i) (sC V σ i (fun _ => .inr none)) (sz + 1) (pc + 3) L (.inr (some (σ, i)) :: st)) : AW l D cA A ad y cc nL ret R Post cells slots lv V sz pc L (.inl x :: st) := by
  intro p e s m args below meth c H locs ls X hA hH hS hL
  obtain ⟨hx', hb, hml, hr, hlk, hown, hts, hK, hnm⟩ := id X
  subst hx
  have hle := Ln_le σ i
  have hrg : Rg ((Ln σ i : Nat) : Int) := ⟨by omega, by omega⟩
  have hAs : A sz := hA sz (by have := hS.1; rw [hH.1] at this; exact this)
  have hover : va_AO (RR (eCl t)) s := by
    match t, ht, h2 with
    | 2, _, _ => exact hK.2.2.1
    | 3, _, _ => exact hK.2.2.2.1
    | 4, _, _ => exact hK.2.2.2.2
  have hat : aty t = .object (RR (eCl t)) := by
    match t, ht, h2 with
    | 2, _, _ => rfl
    | 3, _, _ => rfl
    | 4, _, _ => rfl
  have hra := (hK.1.2 t _ (tyA_at cA ht)).2
  rw [hat] at hra
  obtain ⟨kA', comp', k1, k2', k3, k4⟩ := hra
  have hcl1 : (Int32.ofInt ((Ln σ i : Nat) : Int)).toNatClampNeg = Ln σ i := by rw [rg_clamp hrg]; rfl
  refine W.anew hx' hb hown (hts _ hcl) (va_AO.use hover) rfl hd rfl (by rw [rg_0, rg_lt hrg rg_z]; omega) (by rw [hcl1]; omega) hcells (by rw [hcl1]; exact hslots) fun cB kA comp f1 f2 f3 f4 => ?_
  have hcB : cB = cA t := Option.some.inj (f1.symm.trans k4)
  subst hcB
  rw [hcl1]
  generalize hH1 : H.push ({ cls := cA t, slots := Array.replicate (Ln σ i) .null, vm := .none } : Cell) = H1
  have z1 : H1.size = sz + 1 := by rw [← hH1, Array.size_push, hH.1]
  have e1 : H1[sz]? = some (arrV (cA t) (Ln σ i) (fun _ => .null)) := by rw [← hH1, ← hH.1, Array.getElem?_push_size, ← arrV_new]
  have o1 : ∀ q : Nat, q < sz → H1[q]? = H[q]? := fun q hq => by rw [← hH1, Array.getElem?_push, if_neg (by rw [hH.1]; exact Nat.ne_of_lt hq)]
  have k2 := kk p e s m args below meth c H1 locs ls X hA (hH.push had hAs z1 o1 (by rw [hk]; exact e1)) (hS.push hH.1 z1 o1) hL
  simp only [List.map_cons, rl, had] at k2
  rw [hH.1]
  exact k2
/-! calls of the library -/
theorem st_sum (ad : Ad) (st : List AV) : ((st.map (rl ad)).map fun v => v.category).sum = st.length := by
  induction st with
  | nil => rfl
  | cons a st ih => simp only [List.map_cons, List.sum_cons, List.length_cons, rl_cat] at ih ⊢; omega
theorem aw_objInit {idx σ i : Nat} (hd : decode cc pc = .ok (.invokespecial idx, 3)) (hl : Cond.methodLink y.cls idx Lib.objectInit ∈ TB) (hf : 1 ≤ R.frames) (hlo : st.length + 12 ≤ R.locals) (kk : AW l D cA A ad y cc nL ret R Post cells slots lv V sz (pc + 3) L st) : AW l D cA A ad y cc nL ret R Post cells slots lv V sz pc L (.inr (some (σ, i)) :: st) := by
  intro p e s m args below meth c H locs ls X hA hH hS hL
  obtain ⟨hx, hb, hml, hr, hlk, hown, hts, hK, hnm⟩ := id X
  refine W.objInit hx hb hown (hts _ hl) (hts _ mi_obj) (hts _ mc_obj) rfl (by rw [hml]; exact hL.1) rfl hd hf ?_ (kk p e s m args below meth c H locs ls X hA hH hS hL)
  show 2 * 0 + _ + 12 ≤ _
  rw [st_sum]
  omega
theorem aw_mmax {idx : Nat} {a b : Int} (hd : decode cc pc = .ok (.invokestatic idx, 3)) (hl : Cond.methodLink y.cls idx Lib.Math.max.name ∈ TB) (hf : 1 ≤ R.frames) (hlo : st.length + 13 ≤ R.locals) (hc : cells ≤ R.cells) (hs : slots ≤ R.slots) (ha : Rg a) (hb' : Rg b) (kk : AW l D cA A ad y cc nL ret R Post cells slots lv V sz (pc + 3) L (.inl (if a < b then b else a) :: st)) : AW l D cA A ad y cc nL ret R Post cells slots lv V sz pc L (.inl b :: .inl a :: st) := by
  intro p e s m args below meth c H locs ls X hA hH hS hL
  obtain ⟨hx, hb, hml, hr, hlk, hown, hts, hK, hnm⟩ := id X
  refine va_mmax hx hb (by rw [hml, hL.1]) hown (hts _ hl) (hts _ mt_math_max) (hts _ in_math) (hts _ mc_math_max) hf (by rw [st_sum]; exact hlo) hc hs hd ?_
  have k2 := kk p e s m args below meth c H locs ls X hA hH hS hL
  by_cases hab : a < b
  · rw [if_pos ((rg_lt ha hb').mpr hab)]
    rw [if_pos hab] at k2
    exact k2
  · rw [if_neg (fun q => hab ((rg_lt ha hb').mp q))]
    rw [if_neg hab] at k2
    exact k2
theorem aw_mmin {idx : Nat} {a b : Int} (hd : decode cc pc = .ok (.invokestatic idx, 3)) (hl : Cond.methodLink y.cls idx Lib.Math.min.name ∈ TB) (hf : 1 ≤ R.frames) (hlo : st.length + 13 ≤ R.locals) (hc : cells ≤ R.cells) (hs : slots ≤ R.slots) (ha : Rg a) (hb' : Rg b) (kk : AW l D cA A ad y cc nL ret R Post cells slots lv V sz (pc + 3) L (.inl (if b < a then b else a) :: st)) : AW l D cA A ad y cc nL ret R Post cells slots lv V sz pc L (.inl b :: .inl a :: st) := by
  intro p e s m args below meth c H locs ls X hA hH hS hL
  obtain ⟨hx, hb, hml, hr, hlk, hown, hts, hK, hnm⟩ := id X
  refine va_mmin hx hb (by rw [hml, hL.1]) hown (hts _ hl) (hts _ mt_math_min) (hts _ in_math) (hts _ mc_math_min) hf (by rw [st_sum]; exact hlo) hc hs hd ?_
  have k2 := kk p e s m args below meth c H locs ls X hA hH hS hL
  by_cases hab : b < a
  · rw [if_pos ((rg_lt hb' ha).mpr hab)]
    rw [if_pos hab] at k2
    exact k2
  · rw [if_neg (fun q => hab ((rg_lt hb' ha).mp q))]
    rw [if_neg hab] at k2
    exact k2
/-! calls of own methods by their contracts -/
/-- what a call needs of the tables, of the method called -/
def MO (y' : MethodName) (cc' : ByteArray) (nL' : Nat) (ret' : Option FieldType) (n : Nat) : Prop := Cond.code y' cc' nL' ret' ∈ TB ∧ Cond.initialized y'.cls ∈ TB ∧ y'.cls ≠ "java/lang/invoke/MethodHandle" ∧ y'.cls ≠ "java/lang/invoke/VarHandle" ∧ (parseMethodDescriptor y'.desc).map (fun d => d.parameters.length) = some n
def MV (y' : MethodName) (cc' : ByteArray) (nL' : Nat) (ret' : Option FieldType) (n ci : Nat) : Prop := MO y' cc' nL' ret' n ∧ Cond.instanceMethod y' ∈ TB ∧ Cond.selects y'.cls y' y' ∈ TB ∧ y'.cls = RR ci ∧ ci < 7
def MS (y' : MethodName) (cc' : ByteArray) (nL' : Nat) (ret' : Option FieldType) (n : Nat) : Prop := MO y' cc' nL' ret' n ∧ Cond.static y' ∈ TB
def MI (y' : MethodName) (cc' : ByteArray) (nL' : Nat) (n : Nat) : Prop := MO y' cc' nL' none n ∧ Cond.instanceMethod y' ∈ TB ∧ y'.name = "<init>"
abbrev Fits (R' R : Room) (nL' cells slots : Nat) : Prop := (R'.frames + 1 ≤ R.frames ∧ 8 + (nL' + 11) + R'.locals ≤ R.locals) ∧ cells + R'.cells ≤ R.cells ∧ slots + R'.slots ≤ R.slots
theorem TB_cons {w : Cond} (h : w ∈ TB) : GoodIn TB (w :: TB) := fun v hv => by
  rcases List.mem_cons.mp hv with rfl | hv
  · exact TB_good _ h
  · exact TB_good _ hv
theorem blind {av : List AV} {lv' : Lw} {V' : Vw} {sz' : Nat} : FrameBlind (fun v U => v = (av.map (rl ad)).toArray ∧ KK D cA U ∧ HP D cA A ad lv' V' sz' U.heap ∧ ∀ q, sz' ≤ q → A q) := fun a U g mk h => ⟨h.1, KK.same (s := U) (U := U.calling g mk a) rfl h.2.1, h.2.2.1, h.2.2.2⟩
theorem aw_ran {p : Program} {e : Env} {s : State} {m : MethodId} {args : Array Value} {below : List Frame} {meth : Method} {c : Code} {H : Heap} {locs : List Loc} {ls : Array Slot} {mc ms : Nat} {st0 rest : List Value} {a : Array Value} {Post' : Pst} (X : CX y cc nL ret D cA p s m args meth c) (hA : ∀ q, s.heap.size ≤ q → A q) (hS : va_S A s.heap H locs) (hL : LV ad nL L ls)
    (hr : va_Run p l e R s m args below meth c H locs cells slots mc ms (F0 m pc ls st0) rest (QC D cA A ad Post' a) A) (hrest : rest = st.map (rl ad)) (kk : ∀ (r : Option AV) (lv' : Lw) (V' : Vw) (sz' : Nat), Post' r lv' V' sz' → AW l D cA A ad y cc nL ret R Post (cells + mc) (slots + ms) lv' V' sz' (pc + 3) L (r.toList ++ st)) : W p l e R s m args below meth c H locs cells slots (MQ below (QC D cA A ad Post) args s R.cells R.slots A) (F0 m pc ls st0) := by
  intro T hT XX
  obtain ⟨v, st₀, t, T', L', h0, X', hL', e1, e2, ⟨⟨r, lv', V', sz', hv, hp, hH'⟩, hz, hk⟩, stp⟩ := hr T hT XX
  have hv' : v = r.map (rl ad) := by cases hv; rfl
  subst hv'
  rw [h0] at hz hk
  have hS' : va_S A s.heap T'.heap (locs ++ L') := ⟨Nat.le_trans hS.1 (by rw [e1]; exact hz), fun q h1 h2 => by rw [e1, hk q (Nat.lt_of_lt_of_le h1 hS.1) h2]; exact hS.2.1 q h1 h2, fun q hq => by
      rcases List.mem_append.mp hq with h | h
      · exact hS.2.2 q h
      · exact hL' q h⟩
  have k2 := kk r lv' V' sz' hp p e s m args below meth c T'.heap (locs ++ L') ls X hA (by rw [e1]; exact hH') hS' hL
  obtain ⟨t2, a1, b1⟩ := k2 T' rfl X'
  refine ⟨t2, stp t2 ?_, b1⟩
  have es : (r.map (rl ad)).toList ++ rest = (r.toList ++ st).map (rl ad) := by
    subst hrest
    cases r <;> rfl
  show Steps p.tables e below (T'.setTop (F0 m (pc + 3) ls ((r.map (rl ad)).toList ++ rest))) t2
  rw [es]
  exact a1
theorem lv_room' {m : MethodId} {ls : Array Slot} {g0 : List Value} (h : st.length ≤ 8) : 2 * (F0 m pc ls g0).monitorRoom + ((st.map (rl ad)).map fun v => v.category).sum ≤ 8 := lv_room (by rw [st_sum]; exact h)
theorem aw_callV {idx n ci σ i nL' : Nat} {y' : MethodName} {cc' : ByteArray} {ret' : Option FieldType} {R' : Room} {av stk : List AV} {Post' : Pst} (hM : CT l D cA A ad y' cc' nL' ret' R' (.inr (some (σ, i)) :: av) lv V sz Post') (hm : MV y' cc' nL' ret' n ci) (hl : Cond.methodLink y.cls idx y' ∈ TB) (hd : decode cc pc = .ok (.invokevirtual idx, 3)) (hk : Kd σ i = .inl ci) (hlv : lv σ i = true) (hF : Fits R' R nL' cells slots) (hn : av.length = n) (hst : st.length ≤ 8) (hstk : stk = av.reverse ++ .inr (some (σ, i)) :: st) (kk : ∀ (r : Option AV) (lv' : Lw) (V' : Vw) (sz' : Nat), Post' r lv' V' sz' → AW l D cA A ad y cc nL ret R Post (cells + R'.cells) (slots + R'.slots) lv' V' sz' (pc + 3) L (r.toList ++ st)) : AW l D cA A ad y cc nL ret R Post cells slots lv V sz pc L stk := by
  intro p e s m args below meth c H locs ls X hA hH hS hL
  obtain ⟨hx, hb, hml, hr, hlk, hown, hts, hK, hnm⟩ := id X
  obtain ⟨⟨m1, m2, m3, m4, m5⟩, m6, m7, m8, m9⟩ := hm
  obtain ⟨cell, q1, q2, q3, q4⟩ := hH.obj hk hlv
  subst hstk
  refine aw_ran (a := ((.inr (some (σ, i)) :: av).map (rl ad)).toArray) X hA hS hL (va_runV (C := y'.cls) (As := av.map (rl ad)) (b := ad σ i) (rest := st.map (rl ad)) ⟨hx, hb, hml, hown, hts⟩ hM ⟨callB_of n hts (TB_cons m1) rfl rfl rfl (hts _ m2) (hts _ hl) ⟨m3, m4, m5⟩ hF.1, hts _ m6, hts _ m7⟩ ⟨blind, ⟨cell, q1, by rw [q3]; rfl, ?_⟩, fun U hU hW => ⟨rfl, hK.warm hW, by rw [hU]; exact hH, fun q hq => hA q (by have := hS.1; rw [hH.1] at this; omega)⟩⟩ rfl (by rw [List.length_map]; exact hn) hL.1 ?_ (lv_room' hst) hd hF.2) rfl kk
  · rw [m8, q2]
    exact (hK.1.1 ci _ (cl_at m9)).2.1
  · show List.map (rl ad) (av.reverse ++ .inr (some (σ, i)) :: st) = _
    rw [List.map_append, List.map_reverse]
    rfl
theorem aw_callS {idx n nL' : Nat} {y' : MethodName} {cc' : ByteArray} {ret' : Option FieldType} {R' : Room} {av stk : List AV} {Post' : Pst} (hM : CT l D cA A ad y' cc' nL' ret' R' av lv V sz Post') (hm : MS y' cc' nL' ret' n) (hl : Cond.methodLink y.cls idx y' ∈ TB) (hd : decode cc pc = .ok (.invokestatic idx, 3)) (hF : Fits R' R nL' cells slots) (hn : av.length = n) (hst : st.length ≤ 8) (hstk : stk = av.reverse ++ st) (kk : ∀ (r : Option AV) (lv' : Lw) (V' : Vw) (sz' : Nat), Post' r lv' V' sz' → AW l D cA A ad y cc nL ret R Post (cells + R'.cells) (slots + R'.slots) lv' V' sz' (pc + 3) L (r.toList ++ st)) : AW l D cA A ad y cc nL ret R Post cells slots lv V sz pc L stk := by
  intro p e s m args below meth c H locs ls X hA hH hS hL
  obtain ⟨hx, hb, hml, hr, hlk, hown, hts, hK, hnm⟩ := id X
  obtain ⟨⟨m1, m2, m3, m4, m5⟩, m6⟩ := hm
  subst hstk
  refine aw_ran (a := (av.map (rl ad)).toArray) X hA hS hL (va_runS (As := av.map (rl ad)) (rest := st.map (rl ad)) ⟨hx, hb, hml, hown, hts⟩ hM ⟨callB_of n hts (TB_cons m1) rfl rfl rfl (hts _ m2) (hts _ hl) ⟨m3, m4, m5⟩ hF.1, hts _ m6⟩ ⟨blind, fun U hU hW => ⟨rfl, hK.warm hW, by rw [hU]; exact hH, fun q hq => hA q (by have := hS.1; rw [hH.1] at this; omega)⟩⟩ rfl (by rw [List.length_map]; exact hn) hL.1 ?_ (lv_room' hst) hd hF.2) rfl kk
  show List.map (rl ad) (av.reverse ++ st) = _
  rw [List.map_append, List.map_reverse]
theorem aw_callI {idx n σ i nL' : Nat} {y' : MethodName} {cc' : ByteArray} {R' : Room} {av stk : List AV} {Post' : Pst} (hM : CT l D cA A ad y' cc' nL' none R' (.inr (some (σ, i)) :: av) lv V sz Post') (hm : MI y' cc' nL' n) (hl : Cond.methodLink y.cls idx y' ∈ TB) (hd : decode cc pc = .ok (.invokespecial idx, 3)) (hF : Fits R' R nL' cells slots) (hn : av.length = n) (hst : st.length ≤ 8) (hstk : stk = av.reverse ++ .inr (some (σ, i)) :: st) (kk : ∀ (r : Option AV) (lv' : Lw) (V' : Vw) (sz' : Nat), Post' r lv' V' sz' → AW l D cA A ad y cc nL ret R Post (cells + R'.cells) (slots + R'.slots) lv' V' sz' (pc + 3) L (r.toList ++ st)) : AW l D cA A ad y cc nL ret R Post cells slots lv V sz pc L stk := by
  intro p e s m args below meth c H locs ls X hA hH hS hL
  obtain ⟨hx, hb, hml, hr, hlk, hown, hts, hK, hnm⟩ := id X
  obtain ⟨⟨m1, m2, m3, m4, m5⟩, m6, m7⟩ := hm
  subst hstk
  refine aw_ran (a := ((.inr (some (σ, i)) :: av).map (rl ad)).toArray) X hA hS hL (va_runI (As := av.map (rl ad)) (b := ad σ i) (rest := st.map (rl ad)) ⟨hx, hb, hml, hown, hts⟩ hM ⟨callB_of n hts (TB_cons m1) rfl rfl rfl (hts _ m2) (hts _ hl) ⟨m3, m4, m5⟩ hF.1, m7, hts _ m6⟩ ⟨blind, fun U hU hW => ⟨rfl, hK.warm hW, by rw [hU]; exact hH, fun q hq => hA q (by have := hS.1; rw [hH.1] at this; omega)⟩⟩ rfl (by rw [List.length_map]; exact hn) hL.1 ?_ (lv_room' hst) hd hF.2) rfl kk
  show List.map (rl ad) (av.reverse ++ .inr (some (σ, i)) :: st) = _
  rw [List.map_append, List.map_reverse]
  rfl
theorem aw_callIN {idx n σ i nL' : Nat} {y' : MethodName} {host : String} {cc' : ByteArray} {R' : Room} {av stk : List AV} {Post' : Pst} (hM : CT l D cA A ad y' cc' nL' none R' (.inr (some (σ, i)) :: av) lv V sz Post') (hm : MI y' cc' nL' n) (hl : Cond.methodLinkNest y.cls idx y' host ∈ NW) (hd : decode cc pc = .ok (.invokespecial idx, 3)) (hF : Fits R' R nL' cells slots) (hn : av.length = n) (hst : st.length ≤ 8) (hstk : stk = av.reverse ++ .inr (some (σ, i)) :: st) (kk : ∀ (r : Option AV) (lv' : Lw) (V' : Vw) (sz' : Nat), Post' r lv' V' sz' → AW l D cA A ad y cc nL ret R Post (cells + R'.cells) (slots + R'.slots) lv' V' sz' (pc + 3) L (r.toList ++ st)) : AW l D cA A ad y cc nL ret R Post cells slots lv V sz pc L stk := by
  intro p e s m args below meth c H locs ls X hA hH hS hL
  obtain ⟨hx, hb, hml, hr, hlk, hown, hts, hK, hnm⟩ := id X
  obtain ⟨⟨m1, m2, m3, m4, m5⟩, m6, m7⟩ := hm
  subst hstk
  refine aw_ran (a := ((.inr (some (σ, i)) :: av).map (rl ad)).toArray) X hA hS hL (va_runIN (As := av.map (rl ad)) (b := ad σ i) (rest := st.map (rl ad)) ⟨hx, hb, hml, hown, hts⟩ hM ⟨va_cnB n hts (TB_cons m1) rfl rfl rfl (hK.2.1 _ hl) (hts _ m2) ⟨m3, m4, m5⟩ hF.1, m7, hts _ m6⟩ ⟨blind, fun U hU hW => ⟨rfl, hK.warm hW, by rw [hU]; exact hH, fun q hq => hA q (by have := hS.1; rw [hH.1] at this; omega)⟩⟩ rfl (by rw [List.length_map]; exact hn) hL.1 ?_ (lv_room' hst) hd hF.2) rfl kk
  show List.map (rl ad) (av.reverse ++ .inr (some (σ, i)) :: st) = _
  rw [List.map_append, List.map_reverse]
  rfl
end ENG3
end
section
def rm_X0_init : Room := { frames := 2, cells := 4, slots := 64, locals := 38 }
def rm_X1_init : Room := { frames := 2, cells := 2, slots := 32, locals := 38 }
def rm_X2_init : Room := { frames := 1, cells := 1, slots := 30, locals := 17 }
def rm_X2_isFull : Room := { frames := 0, cells := 0, slots := 0, locals := 0 }
def rm_X2_add : Room := { frames := 0, cells := 0, slots := 0, locals := 0 }
def rm_X2_at : Room := { frames := 0, cells := 0, slots := 0, locals := 0 }
def rm_X2_numberAt : Room := { frames := 1, cells := 0, slots := 0, locals := 21 }
def rm_X2_hasAground : Room := { frames := 1, cells := 0, slots := 0, locals := 21 }
def rm_X2_removeFirst : Room := { frames := 0, cells := 0, slots := 0, locals := 0 }
def rm_X3_init : Room := { frames := 3, cells := 6, slots := 68, locals := 58 }
def rm_X3_lane : Room := { frames := 0, cells := 0, slots := 0, locals := 0 }
def rm_X3_waysInside : Room := { frames := 0, cells := 0, slots := 0, locals := 0 }
def rm_X4_init : Room := { frames := 1, cells := 1, slots := 7, locals := 17 }
def rm_X4_isInSection : Room := { frames := 0, cells := 0, slots := 0, locals := 0 }
def rm_X4_isAground : Room := { frames := 0, cells := 0, slots := 0, locals := 0 }
def rm_X4_waitBy : Room := { frames := 0, cells := 0, slots := 0, locals := 0 }
def rm_X4_waitedInAll : Room := { frames := 0, cells := 0, slots := 0, locals := 0 }
def rm_X4_counts : Room := { frames := 1, cells := 0, slots := 0, locals := 20 }
def rm_X4_dues : Room := { frames := 1, cells := 0, slots := 0, locals := 17 }
def rm_X5_init : Room := { frames := 4, cells := 66, slots := 756, locals := 79 }
def rm_X5_section : Room := { frames := 1, cells := 0, slots := 0, locals := 22 }
def rm_X5_tide : Room := { frames := 1, cells := 0, slots := 0, locals := 22 }
def rm_X5_wind : Room := { frames := 1, cells := 0, slots := 0, locals := 22 }
def rm_X5_rule : Room := { frames := 1, cells := 0, slots := 0, locals := 22 }
def rm_X5_ship : Room := { frames := 2, cells := 2, slots := 23, locals := 44 }
def rm_X5_convoy : Room := { frames := 3, cells := 5, slots := 68, locals := 60 }
def rm_X5_book : Room := { frames := 1, cells := 0, slots := 0, locals := 21 }
def rm_X5_ground : Room := { frames := 1, cells := 0, slots := 0, locals := 22 }
def rm_X5_minutes : Room := { frames := 6, cells := 0, slots := 0, locals := 145 }
def rm_X5_startConvoys : Room := { frames := 2, cells := 0, slots := 0, locals := 44 }
def rm_X5_joinLine : Room := { frames := 1, cells := 0, slots := 0, locals := 21 }
def rm_X5_findLateShips : Room := { frames := 3, cells := 0, slots := 0, locals := 69 }
def rm_X5_missedConvoy : Room := { frames := 1, cells := 0, slots := 0, locals := 21 }
def rm_X5_takeLateShip : Room := { frames := 2, cells := 0, slots := 0, locals := 46 }
def rm_X5_nextConvoy : Room := { frames := 1, cells := 0, slots := 0, locals := 21 }
def rm_X5_moveShips : Room := { frames := 5, cells := 0, slots := 0, locals := 122 }
def rm_X5_moveWithin : Room := { frames := 4, cells := 0, slots := 0, locals := 95 }
def rm_X5_leaves : Room := { frames := 3, cells := 0, slots := 0, locals := 71 }
def rm_X5_letFirstIn : Room := { frames := 3, cells := 0, slots := 0, locals := 71 }
def rm_X5_comesInto : Room := { frames := 1, cells := 0, slots := 0, locals := 21 }
def rm_X5_causeAgainst : Room := { frames := 2, cells := 0, slots := 0, locals := 47 }
def rm_X5_reachesShip : Room := { frames := 1, cells := 0, slots := 0, locals := 21 }
def rm_X5_depthNow : Room := { frames := 1, cells := 0, slots := 0, locals := 20 }
def rm_X5_windBarsGreat : Room := { frames := 1, cells := 0, slots := 0, locals := 20 }
def rm_X5_hourNow : Room := { frames := 0, cells := 0, slots := 0, locals := 0 }
def rm_X5_told : Room := { frames := 2, cells := 0, slots := 0, locals := 40 }
def rm_X5_waited : Room := { frames := 1, cells := 0, slots := 0, locals := 22 }
def rm_X5_line : Room := { frames := 2, cells := 0, slots := 0, locals := 43 }
def rm_X5_in : Room := { frames := 2, cells := 0, slots := 0, locals := 43 }
def rm_X5_count : Room := { frames := 3, cells := 0, slots := 0, locals := 65 }
def rm_X5_shipsThat : Room := { frames := 2, cells := 0, slots := 0, locals := 41 }
def rm_X5_mostWaysInOneSection : Room := { frames := 1, cells := 0, slots := 0, locals := 21 }
def rm_X5_sectionAt : Room := { frames := 0, cells := 0, slots := 0, locals := 0 }
def rm_X5_convoyAt : Room := { frames := 0, cells := 0, slots := 0, locals := 0 }
def rm_X5_lineOf : Room := { frames := 0, cells := 0, slots := 0, locals := 0 }
def rm_X5_isWay : Room := { frames := 0, cells := 0, slots := 0, locals := 0 }
def rm_X5_within : Room := { frames := 0, cells := 0, slots := 0, locals := 0 }
def rm_X6_init : Room := { frames := 1, cells := 31, slots := 1780, locals := 17 }
def rm_X6_isIn : Room := { frames := 0, cells := 0, slots := 0, locals := 0 }
def rm_X6_section : Room := { frames := 1, cells := 0, slots := 0, locals := 22 }
def rm_X6_tide : Room := { frames := 1, cells := 0, slots := 0, locals := 22 }
def rm_X6_wind : Room := { frames := 1, cells := 0, slots := 0, locals := 22 }
def rm_X6_rule : Room := { frames := 1, cells := 0, slots := 0, locals := 22 }
def rm_X6_ship : Room := { frames := 1, cells := 0, slots := 0, locals := 22 }
def rm_X6_convoy : Room := { frames := 1, cells := 0, slots := 0, locals := 22 }
def rm_X6_book : Room := { frames := 1, cells := 0, slots := 0, locals := 22 }
def rm_X6_ground : Room := { frames := 1, cells := 0, slots := 0, locals := 22 }
def rm_X6_joins : Room := { frames := 0, cells := 0, slots := 0, locals := 0 }
def rm_X6_starts : Room := { frames := 1, cells := 0, slots := 0, locals := 22 }
def rm_X6_nextConvoy : Room := { frames := 0, cells := 0, slots := 0, locals := 0 }
def rm_X6_lates : Room := { frames := 1, cells := 0, slots := 0, locals := 24 }
def rm_X6_isAground : Room := { frames := 0, cells := 0, slots := 0, locals := 0 }
def rm_X6_isOncoming : Room := { frames := 0, cells := 0, slots := 0, locals := 0 }
def rm_X6_cause : Room := { frames := 1, cells := 0, slots := 0, locals := 25 }
def rm_X6_enters : Room := { frames := 0, cells := 0, slots := 0, locals := 0 }
def rm_X6_leaves : Room := { frames := 0, cells := 0, slots := 0, locals := 0 }
def rm_X6_moves : Room := { frames := 3, cells := 0, slots := 0, locals := 75 }
def rm_X6_goes : Room := { frames := 2, cells := 0, slots := 0, locals := 50 }
def rm_X6_comesIn : Room := { frames := 2, cells := 0, slots := 0, locals := 50 }
def rm_X6_minutes : Room := { frames := 4, cells := 0, slots := 0, locals := 102 }
def rm_X6_dues : Room := { frames := 0, cells := 0, slots := 0, locals := 0 }
def rm_X6_told : Room := { frames := 1, cells := 0, slots := 0, locals := 23 }
def rm_X6_waited : Room := { frames := 1, cells := 0, slots := 0, locals := 22 }
def rm_X6_line : Room := { frames := 1, cells := 0, slots := 0, locals := 22 }
def rm_X6_in : Room := { frames := 1, cells := 0, slots := 0, locals := 22 }
def rm_X6_several : Room := { frames := 0, cells := 0, slots := 0, locals := 0 }
def rm_X6_count : Room := { frames := 1, cells := 0, slots := 0, locals := 23 }
theorem mv_X0_init : MI yX0_init cX0_init 3 2 := ⟨⟨mc_X0_init, in_X0, by decide, by decide, by decide +kernel⟩, mi_X0_init, rfl⟩
theorem mv_X1_init : MI yX1_init cX1_init 1 0 := ⟨⟨mc_X1_init, in_X1, by decide, by decide, by decide +kernel⟩, mi_X1_init, rfl⟩
theorem mv_X2_init : MI yX2_init cX2_init 2 1 := ⟨⟨mc_X2_init, in_X2, by decide, by decide, by decide +kernel⟩, mi_X2_init, rfl⟩
theorem mv_X2_isFull : MV yX2_isFull cX2_isFull 1 (some .boolean) 0 2 := ⟨⟨mc_X2_isFull, in_X2, by decide, by decide, by decide +kernel⟩, mi_X2_isFull, ms_X2_isFull, rfl, by decide⟩
theorem mv_X2_add : MV yX2_add cX2_add 2 none 1 2 := ⟨⟨mc_X2_add, in_X2, by decide, by decide, by decide +kernel⟩, mi_X2_add, ms_X2_add, rfl, by decide⟩
theorem mv_X2_at : MV yX2_at cX2_at 2 (some (.object "ShipCut$Ship")) 1 2 := ⟨⟨mc_X2_at, in_X2, by decide, by decide, by decide +kernel⟩, mi_X2_at, ms_X2_at, rfl, by decide⟩
theorem mv_X2_numberAt : MV yX2_numberAt cX2_numberAt 3 (some .int) 1 2 := ⟨⟨mc_X2_numberAt, in_X2, by decide, by decide, by decide +kernel⟩, mi_X2_numberAt, ms_X2_numberAt, rfl, by decide⟩
theorem mv_X2_hasAground : MV yX2_hasAground cX2_hasAground 4 (some .boolean) 1 2 := ⟨⟨mc_X2_hasAground, in_X2, by decide, by decide, by decide +kernel⟩, mi_X2_hasAground, ms_X2_hasAground, rfl, by decide⟩
theorem mv_X2_removeFirst : MV yX2_removeFirst cX2_removeFirst 2 none 0 2 := ⟨⟨mc_X2_removeFirst, in_X2, by decide, by decide, by decide +kernel⟩, mi_X2_removeFirst, ms_X2_removeFirst, rfl, by decide⟩
theorem mv_X3_init : MI yX3_init cX3_init 2 1 := ⟨⟨mc_X3_init, in_X3, by decide, by decide, by decide +kernel⟩, mi_X3_init, rfl⟩
theorem mv_X3_lane : MV yX3_lane cX3_lane 2 (some (.object "ShipCut$Lane")) 1 3 := ⟨⟨mc_X3_lane, in_X3, by decide, by decide, by decide +kernel⟩, mi_X3_lane, ms_X3_lane, rfl, by decide⟩
theorem mv_X3_waysInside : MV yX3_waysInside cX3_waysInside 1 (some .int) 0 3 := ⟨⟨mc_X3_waysInside, in_X3, by decide, by decide, by decide +kernel⟩, mi_X3_waysInside, ms_X3_waysInside, rfl, by decide⟩
theorem mv_X4_init : MI yX4_init cX4_init 8 7 := ⟨⟨mc_X4_init, in_X4, by decide, by decide, by decide +kernel⟩, mi_X4_init, rfl⟩
theorem mv_X4_isInSection : MV yX4_isInSection cX4_isInSection 1 (some .boolean) 0 4 := ⟨⟨mc_X4_isInSection, in_X4, by decide, by decide, by decide +kernel⟩, mi_X4_isInSection, ms_X4_isInSection, rfl, by decide⟩
theorem mv_X4_isAground : MV yX4_isAground cX4_isAground 2 (some .boolean) 1 4 := ⟨⟨mc_X4_isAground, in_X4, by decide, by decide, by decide +kernel⟩, mi_X4_isAground, ms_X4_isAground, rfl, by decide⟩
theorem mv_X4_waitBy : MV yX4_waitBy cX4_waitBy 2 none 1 4 := ⟨⟨mc_X4_waitBy, in_X4, by decide, by decide, by decide +kernel⟩, mi_X4_waitBy, ms_X4_waitBy, rfl, by decide⟩
theorem mv_X4_waitedInAll : MV yX4_waitedInAll cX4_waitedInAll 3 (some .int) 0 4 := ⟨⟨mc_X4_waitedInAll, in_X4, by decide, by decide, by decide +kernel⟩, mi_X4_waitedInAll, ms_X4_waitedInAll, rfl, by decide⟩
theorem mv_X4_counts : MV yX4_counts cX4_counts 2 (some .boolean) 1 4 := ⟨⟨mc_X4_counts, in_X4, by decide, by decide, by decide +kernel⟩, mi_X4_counts, ms_X4_counts, rfl, by decide⟩
theorem mv_X4_dues : MV yX4_dues cX4_dues 4 (some .int) 0 4 := ⟨⟨mc_X4_dues, in_X4, by decide, by decide, by decide +kernel⟩, mi_X4_dues, ms_X4_dues, rfl, by decide⟩
theorem mv_X5_init : MI yX5_init cX5_init 2 0 := ⟨⟨mc_X5_init, in_X5, by decide, by decide, by decide +kernel⟩, mi_X5_init, rfl⟩
theorem mv_X5_section : MV yX5_section cX5_section 6 (some .int) 4 5 := ⟨⟨mc_X5_section, in_X5, by decide, by decide, by decide +kernel⟩, mi_X5_section, ms_X5_section, rfl, by decide⟩
theorem mv_X5_tide : MV yX5_tide cX5_tide 4 (some .int) 2 5 := ⟨⟨mc_X5_tide, in_X5, by decide, by decide, by decide +kernel⟩, mi_X5_tide, ms_X5_tide, rfl, by decide⟩
theorem mv_X5_wind : MV yX5_wind cX5_wind 4 (some .int) 2 5 := ⟨⟨mc_X5_wind, in_X5, by decide, by decide, by decide +kernel⟩, mi_X5_wind, ms_X5_wind, rfl, by decide⟩
theorem mv_X5_rule : MV yX5_rule cX5_rule 4 (some .int) 2 5 := ⟨⟨mc_X5_rule, in_X5, by decide, by decide, by decide +kernel⟩, mi_X5_rule, ms_X5_rule, rfl, by decide⟩
theorem mv_X5_ship : MV yX5_ship cX5_ship 8 (some .int) 6 5 := ⟨⟨mc_X5_ship, in_X5, by decide, by decide, by decide +kernel⟩, mi_X5_ship, ms_X5_ship, rfl, by decide⟩
theorem mv_X5_convoy : MV yX5_convoy cX5_convoy 3 (some .int) 2 5 := ⟨⟨mc_X5_convoy, in_X5, by decide, by decide, by decide +kernel⟩, mi_X5_convoy, ms_X5_convoy, rfl, by decide⟩
theorem mv_X5_book : MV yX5_book cX5_book 5 (some .int) 2 5 := ⟨⟨mc_X5_book, in_X5, by decide, by decide, by decide +kernel⟩, mi_X5_book, ms_X5_book, rfl, by decide⟩
theorem mv_X5_ground : MV yX5_ground cX5_ground 4 (some .int) 2 5 := ⟨⟨mc_X5_ground, in_X5, by decide, by decide, by decide +kernel⟩, mi_X5_ground, ms_X5_ground, rfl, by decide⟩
theorem mv_X5_minutes : MV yX5_minutes cX5_minutes 3 (some .int) 1 5 := ⟨⟨mc_X5_minutes, in_X5, by decide, by decide, by decide +kernel⟩, mi_X5_minutes, ms_X5_minutes, rfl, by decide⟩
theorem mv_X5_startConvoys : MV yX5_startConvoys cX5_startConvoys 3 none 0 5 := ⟨⟨mc_X5_startConvoys, in_X5, by decide, by decide, by decide +kernel⟩, mi_X5_startConvoys, ms_X5_startConvoys, rfl, by decide⟩
theorem mv_X5_joinLine : MV yX5_joinLine cX5_joinLine 4 none 1 5 := ⟨⟨mc_X5_joinLine, in_X5, by decide, by decide, by decide +kernel⟩, mi_X5_joinLine, ms_X5_joinLine, rfl, by decide⟩
theorem mv_X5_findLateShips : MV yX5_findLateShips cX5_findLateShips 3 none 0 5 := ⟨⟨mc_X5_findLateShips, in_X5, by decide, by decide, by decide +kernel⟩, mi_X5_findLateShips, ms_X5_findLateShips, rfl, by decide⟩
theorem mv_X5_missedConvoy : MV yX5_missedConvoy cX5_missedConvoy 3 (some .boolean) 1 5 := ⟨⟨mc_X5_missedConvoy, in_X5, by decide, by decide, by decide +kernel⟩, mi_X5_missedConvoy, ms_X5_missedConvoy, rfl, by decide⟩
theorem mv_X5_takeLateShip : MV yX5_takeLateShip cX5_takeLateShip 4 none 1 5 := ⟨⟨mc_X5_takeLateShip, in_X5, by decide, by decide, by decide +kernel⟩, mi_X5_takeLateShip, ms_X5_takeLateShip, rfl, by decide⟩
theorem mv_X5_nextConvoy : MV yX5_nextConvoy cX5_nextConvoy 6 (some .int) 1 5 := ⟨⟨mc_X5_nextConvoy, in_X5, by decide, by decide, by decide +kernel⟩, mi_X5_nextConvoy, ms_X5_nextConvoy, rfl, by decide⟩
theorem mv_X5_moveShips : MV yX5_moveShips cX5_moveShips 4 none 1 5 := ⟨⟨mc_X5_moveShips, in_X5, by decide, by decide, by decide +kernel⟩, mi_X5_moveShips, ms_X5_moveShips, rfl, by decide⟩
theorem mv_X5_moveWithin : MV yX5_moveWithin cX5_moveWithin 8 none 2 5 := ⟨⟨mc_X5_moveWithin, in_X5, by decide, by decide, by decide +kernel⟩, mi_X5_moveWithin, ms_X5_moveWithin, rfl, by decide⟩
theorem mv_X5_leaves : MV yX5_leaves cX5_leaves 5 (some .boolean) 3 5 := ⟨⟨mc_X5_leaves, in_X5, by decide, by decide, by decide +kernel⟩, mi_X5_leaves, ms_X5_leaves, rfl, by decide⟩
theorem mv_X5_letFirstIn : MV yX5_letFirstIn cX5_letFirstIn 7 none 1 5 := ⟨⟨mc_X5_letFirstIn, in_X5, by decide, by decide, by decide +kernel⟩, mi_X5_letFirstIn, ms_X5_letFirstIn, rfl, by decide⟩
theorem mv_X5_comesInto : MV yX5_comesInto cX5_comesInto 5 (some .boolean) 3 5 := ⟨⟨mc_X5_comesInto, in_X5, by decide, by decide, by decide +kernel⟩, mi_X5_comesInto, ms_X5_comesInto, rfl, by decide⟩
theorem mv_X5_causeAgainst : MV yX5_causeAgainst cX5_causeAgainst 5 (some .int) 2 5 := ⟨⟨mc_X5_causeAgainst, in_X5, by decide, by decide, by decide +kernel⟩, mi_X5_causeAgainst, ms_X5_causeAgainst, rfl, by decide⟩
theorem mv_X5_reachesShip : MV yX5_reachesShip cX5_reachesShip 7 (some .boolean) 3 5 := ⟨⟨mc_X5_reachesShip, in_X5, by decide, by decide, by decide +kernel⟩, mi_X5_reachesShip, ms_X5_reachesShip, rfl, by decide⟩
theorem mv_X5_depthNow : MV yX5_depthNow cX5_depthNow 3 (some .int) 1 5 := ⟨⟨mc_X5_depthNow, in_X5, by decide, by decide, by decide +kernel⟩, mi_X5_depthNow, ms_X5_depthNow, rfl, by decide⟩
theorem mv_X5_windBarsGreat : MV yX5_windBarsGreat cX5_windBarsGreat 2 (some .boolean) 0 5 := ⟨⟨mc_X5_windBarsGreat, in_X5, by decide, by decide, by decide +kernel⟩, mi_X5_windBarsGreat, ms_X5_windBarsGreat, rfl, by decide⟩
theorem mv_X5_hourNow : MV yX5_hourNow cX5_hourNow 1 (some .int) 0 5 := ⟨⟨mc_X5_hourNow, in_X5, by decide, by decide, by decide +kernel⟩, mi_X5_hourNow, ms_X5_hourNow, rfl, by decide⟩
theorem mv_X5_told : MV yX5_told cX5_told 4 (some .int) 2 5 := ⟨⟨mc_X5_told, in_X5, by decide, by decide, by decide +kernel⟩, mi_X5_told, ms_X5_told, rfl, by decide⟩
theorem mv_X5_waited : MV yX5_waited cX5_waited 4 (some .int) 2 5 := ⟨⟨mc_X5_waited, in_X5, by decide, by decide, by decide +kernel⟩, mi_X5_waited, ms_X5_waited, rfl, by decide⟩
theorem mv_X5_line : MV yX5_line cX5_line 3 (some .int) 2 5 := ⟨⟨mc_X5_line, in_X5, by decide, by decide, by decide +kernel⟩, mi_X5_line, ms_X5_line, rfl, by decide⟩
theorem mv_X5_in : MV yX5_in cX5_in 5 (some .int) 3 5 := ⟨⟨mc_X5_in, in_X5, by decide, by decide, by decide +kernel⟩, mi_X5_in, ms_X5_in, rfl, by decide⟩
theorem mv_X5_count : MV yX5_count cX5_count 2 (some .int) 1 5 := ⟨⟨mc_X5_count, in_X5, by decide, by decide, by decide +kernel⟩, mi_X5_count, ms_X5_count, rfl, by decide⟩
theorem mv_X5_shipsThat : MV yX5_shipsThat cX5_shipsThat 5 (some .int) 1 5 := ⟨⟨mc_X5_shipsThat, in_X5, by decide, by decide, by decide +kernel⟩, mi_X5_shipsThat, ms_X5_shipsThat, rfl, by decide⟩
theorem mv_X5_mostWaysInOneSection : MV yX5_mostWaysInOneSection cX5_mostWaysInOneSection 4 (some .int) 0 5 := ⟨⟨mc_X5_mostWaysInOneSection, in_X5, by decide, by decide, by decide +kernel⟩, mi_X5_mostWaysInOneSection, ms_X5_mostWaysInOneSection, rfl, by decide⟩
theorem mv_X5_sectionAt : MV yX5_sectionAt cX5_sectionAt 2 (some (.object "ShipCut$Section")) 1 5 := ⟨⟨mc_X5_sectionAt, in_X5, by decide, by decide, by decide +kernel⟩, mi_X5_sectionAt, ms_X5_sectionAt, rfl, by decide⟩
theorem mv_X5_convoyAt : MV yX5_convoyAt cX5_convoyAt 2 (some (.object "ShipCut$Convoy")) 1 5 := ⟨⟨mc_X5_convoyAt, in_X5, by decide, by decide, by decide +kernel⟩, mi_X5_convoyAt, ms_X5_convoyAt, rfl, by decide⟩
theorem mv_X5_lineOf : MV yX5_lineOf cX5_lineOf 2 (some (.object "ShipCut$Row")) 1 5 := ⟨⟨mc_X5_lineOf, in_X5, by decide, by decide, by decide +kernel⟩, mi_X5_lineOf, ms_X5_lineOf, rfl, by decide⟩
theorem mv_X5_isWay : MS yX5_isWay cX5_isWay 1 (some .boolean) 1 := ⟨⟨mc_X5_isWay, in_X5, by decide, by decide, by decide +kernel⟩, mt_X5_isWay⟩
theorem mv_X5_within : MS yX5_within cX5_within 3 (some .boolean) 3 := ⟨⟨mc_X5_within, in_X5, by decide, by decide, by decide +kernel⟩, mt_X5_within⟩
theorem mv_X6_init : MI yX6_init cX6_init 2 0 := ⟨⟨mc_X6_init, in_X6, by decide, by decide, by decide +kernel⟩, mi_X6_init, rfl⟩
theorem mv_X6_isIn : MS yX6_isIn cX6_isIn 3 (some .boolean) 3 := ⟨⟨mc_X6_isIn, in_X6, by decide, by decide, by decide +kernel⟩, mt_X6_isIn⟩
theorem mv_X6_section : MV yX6_section cX6_section 5 (some .int) 4 6 := ⟨⟨mc_X6_section, in_X6, by decide, by decide, by decide +kernel⟩, mi_X6_section, ms_X6_section, rfl, by decide⟩
theorem mv_X6_tide : MV yX6_tide cX6_tide 4 (some .int) 2 6 := ⟨⟨mc_X6_tide, in_X6, by decide, by decide, by decide +kernel⟩, mi_X6_tide, ms_X6_tide, rfl, by decide⟩
theorem mv_X6_wind : MV yX6_wind cX6_wind 4 (some .int) 2 6 := ⟨⟨mc_X6_wind, in_X6, by decide, by decide, by decide +kernel⟩, mi_X6_wind, ms_X6_wind, rfl, by decide⟩
theorem mv_X6_rule : MV yX6_rule cX6_rule 4 (some .int) 2 6 := ⟨⟨mc_X6_rule, in_X6, by decide, by decide, by decide +kernel⟩, mi_X6_rule, ms_X6_rule, rfl, by decide⟩
theorem mv_X6_ship : MV yX6_ship cX6_ship 7 (some .int) 6 6 := ⟨⟨mc_X6_ship, in_X6, by decide, by decide, by decide +kernel⟩, mi_X6_ship, ms_X6_ship, rfl, by decide⟩
theorem mv_X6_convoy : MV yX6_convoy cX6_convoy 3 (some .int) 2 6 := ⟨⟨mc_X6_convoy, in_X6, by decide, by decide, by decide +kernel⟩, mi_X6_convoy, ms_X6_convoy, rfl, by decide⟩
theorem mv_X6_book : MV yX6_book cX6_book 3 (some .int) 2 6 := ⟨⟨mc_X6_book, in_X6, by decide, by decide, by decide +kernel⟩, mi_X6_book, ms_X6_book, rfl, by decide⟩
theorem mv_X6_ground : MV yX6_ground cX6_ground 3 (some .int) 2 6 := ⟨⟨mc_X6_ground, in_X6, by decide, by decide, by decide +kernel⟩, mi_X6_ground, ms_X6_ground, rfl, by decide⟩
theorem mv_X6_joins : MV yX6_joins cX6_joins 3 none 1 6 := ⟨⟨mc_X6_joins, in_X6, by decide, by decide, by decide +kernel⟩, mi_X6_joins, ms_X6_joins, rfl, by decide⟩
theorem mv_X6_starts : MV yX6_starts cX6_starts 3 none 0 6 := ⟨⟨mc_X6_starts, in_X6, by decide, by decide, by decide +kernel⟩, mi_X6_starts, ms_X6_starts, rfl, by decide⟩
theorem mv_X6_nextConvoy : MV yX6_nextConvoy cX6_nextConvoy 5 (some .int) 1 6 := ⟨⟨mc_X6_nextConvoy, in_X6, by decide, by decide, by decide +kernel⟩, mi_X6_nextConvoy, ms_X6_nextConvoy, rfl, by decide⟩
theorem mv_X6_lates : MV yX6_lates cX6_lates 3 none 0 6 := ⟨⟨mc_X6_lates, in_X6, by decide, by decide, by decide +kernel⟩, mi_X6_lates, ms_X6_lates, rfl, by decide⟩
theorem mv_X6_isAground : MV yX6_isAground cX6_isAground 4 (some .boolean) 1 6 := ⟨⟨mc_X6_isAground, in_X6, by decide, by decide, by decide +kernel⟩, mi_X6_isAground, ms_X6_isAground, rfl, by decide⟩
theorem mv_X6_isOncoming : MV yX6_isOncoming cX6_isOncoming 6 (some .boolean) 2 6 := ⟨⟨mc_X6_isOncoming, in_X6, by decide, by decide, by decide +kernel⟩, mi_X6_isOncoming, ms_X6_isOncoming, rfl, by decide⟩
theorem mv_X6_cause : MV yX6_cause cX6_cause 6 (some .int) 2 6 := ⟨⟨mc_X6_cause, in_X6, by decide, by decide, by decide +kernel⟩, mi_X6_cause, ms_X6_cause, rfl, by decide⟩
theorem mv_X6_enters : MV yX6_enters cX6_enters 4 none 2 6 := ⟨⟨mc_X6_enters, in_X6, by decide, by decide, by decide +kernel⟩, mi_X6_enters, ms_X6_enters, rfl, by decide⟩
theorem mv_X6_leaves : MV yX6_leaves cX6_leaves 5 none 2 6 := ⟨⟨mc_X6_leaves, in_X6, by decide, by decide, by decide +kernel⟩, mi_X6_leaves, ms_X6_leaves, rfl, by decide⟩
theorem mv_X6_moves : MV yX6_moves cX6_moves 8 none 2 6 := ⟨⟨mc_X6_moves, in_X6, by decide, by decide, by decide +kernel⟩, mi_X6_moves, ms_X6_moves, rfl, by decide⟩
theorem mv_X6_goes : MV yX6_goes cX6_goes 6 (some .boolean) 2 6 := ⟨⟨mc_X6_goes, in_X6, by decide, by decide, by decide +kernel⟩, mi_X6_goes, ms_X6_goes, rfl, by decide⟩
theorem mv_X6_comesIn : MV yX6_comesIn cX6_comesIn 6 none 1 6 := ⟨⟨mc_X6_comesIn, in_X6, by decide, by decide, by decide +kernel⟩, mi_X6_comesIn, ms_X6_comesIn, rfl, by decide⟩
theorem mv_X6_minutes : MV yX6_minutes cX6_minutes 4 (some .int) 1 6 := ⟨⟨mc_X6_minutes, in_X6, by decide, by decide, by decide +kernel⟩, mi_X6_minutes, ms_X6_minutes, rfl, by decide⟩
theorem mv_X6_dues : MV yX6_dues cX6_dues 4 (some .int) 1 6 := ⟨⟨mc_X6_dues, in_X6, by decide, by decide, by decide +kernel⟩, mi_X6_dues, ms_X6_dues, rfl, by decide⟩
theorem mv_X6_told : MV yX6_told cX6_told 3 (some .int) 2 6 := ⟨⟨mc_X6_told, in_X6, by decide, by decide, by decide +kernel⟩, mi_X6_told, ms_X6_told, rfl, by decide⟩
theorem mv_X6_waited : MV yX6_waited cX6_waited 5 (some .int) 2 6 := ⟨⟨mc_X6_waited, in_X6, by decide, by decide, by decide +kernel⟩, mi_X6_waited, ms_X6_waited, rfl, by decide⟩
theorem mv_X6_line : MV yX6_line cX6_line 3 (some .int) 2 6 := ⟨⟨mc_X6_line, in_X6, by decide, by decide, by decide +kernel⟩, mi_X6_line, ms_X6_line, rfl, by decide⟩
theorem mv_X6_in : MV yX6_in cX6_in 4 (some .int) 3 6 := ⟨⟨mc_X6_in, in_X6, by decide, by decide, by decide +kernel⟩, mi_X6_in, ms_X6_in, rfl, by decide⟩
theorem mv_X6_several : MV yX6_several cX6_several 4 (some .int) 0 6 := ⟨⟨mc_X6_several, in_X6, by decide, by decide, by decide +kernel⟩, mi_X6_several, ms_X6_several, rfl, by decide⟩
theorem mv_X6_count : MV yX6_count cX6_count 7 (some .int) 1 6 := ⟨⟨mc_X6_count, in_X6, by decide, by decide, by decide +kernel⟩, mi_X6_count, ms_X6_count, rfl, by decide⟩
/-! ===== the reference's state: S k x is place x of its array k (or its number k, at 0) ===== -/
abbrev SS : Type := Nat → Int → Int
def u2 (S : SS) (k : Nat) (x v : Int) : SS := fun k' x' => if k' = k ∧ x' = x then v else S k' x'
theorem u2_self (S : SS) (k : Nat) (x v : Int) : u2 S k x v k x = v := by simp [u2]
theorem u2_ne {S : SS} {k k' : Nat} (h : k' ≠ k) (x v x' : Int) : u2 S k x v k' x' = S k' x' := by simp [u2, h]
theorem u2_at (S : SS) (k : Nat) (x v x' : Int) : u2 S k x v k x' = if x' = x then v else S k x' := by simp [u2]
def scal (k : Nat) : Bool := k == 0 || k == 1 || k == 2 || k == 8 || k == 24
def VR (S : SS) : Vw := fun σ i k => if σ = 50 then (if scal k = true then .inl (S k 0) else .inr (some (51, k))) else if σ = 51 then .inl (S i (k : Int)) else .inr none
def lvR : Lw := fun σ i => (σ == 50 && i == 0) || (σ == 51 && !(scal i) && decide (i < 36))
/-- the end of a method of the reference: its answer, its state -/
def PR (r : Option AV) (S' : SS) (sz : Nat) : Pst := fun r' lv' V' sz' => r' = r ∧ lv' = lvR ∧ V' = VR S' ∧ sz' = sz
theorem VR_arr (S : SS) (k i : Nat) : VR S 51 k i = .inl (S k (i : Int)) := by simp [VR]
theorem VR_at (S : SS) (k : Nat) {x : Int} (h : 0 ≤ x) : VR S 51 k x.toNat = .inl (S k x) := by rw [VR_arr, Int.toNat_of_nonneg h]
theorem VR_set (S : SS) (k : Nat) {x : Int} (h : 0 ≤ x) (hk : scal k = false) (v : Int) : s3 (VR S) 51 k x.toNat (.inl v) = VR (u2 S k x v) := by
  funext σ i q
  have hx := Int.toNat_of_nonneg h
  simp only [s3, VR, u2]
  by_cases h1 : σ = 50
  · subst h1
    by_cases h2 : scal q = true
    · have h3 : q ≠ k := fun e => by rw [e, hk] at h2; cases h2
      simp [h2, h3]
    · simp [h2]
  · by_cases h6 : σ = 51
    · subst h6
      by_cases h5 : i = k ∧ (q : Int) = x
      · have h7 : i = k ∧ q = x.toNat := ⟨h5.1, by omega⟩
        simp [h5.1, h7.2, hx]
      · have h7 : ¬ (i = k ∧ q = x.toNat) := fun g => h5 ⟨g.1, by omega⟩
        simp [h5, h7]
    · simp [h1, h6]
theorem VR_put (S : SS) (k : Nat) (hk : scal k = true) (v : Int) : s3 (VR S) 50 0 k (.inl v) 50 0 = VR (u2 S k 0 v) 50 0 := by
  funext q
  simp only [s3, VR, u2]
  by_cases h : q = k
  · subst h; simp [hk]
  · simp [h]
section RROW
variable {l : Launch} {D : va_G} {cA : Nat → ClassId} {A : Nat → Prop} {ad : Ad} {y : MethodName} {cc : ByteArray} {nL : Nat} {ret : Option FieldType} {R : Room} {Post : Pst} {cells slots : Nat} {S S0 : SS} {sz pc : Nat} {L : List (Option AV)} {st : List AV}
theorem rr_getA {idx k : Nat} (hd : decode cc pc = .ok (.getfield idx, 3)) (hf : FL y.cls idx 6 k) (hs : scal k = false) (hk : k < 36) (kk : AW l D cA A ad y cc nL ret R Post cells slots lvR (VR S) sz (pc + 3) L (.inr (some (51, k)) :: st)) : AW l D cA A ad y cc nL ret R Post cells slots lvR (VR S) sz pc L (.inr (some (50, 0)) :: st) :=
  aw_get hd hf (by decide) hk rfl rfl (by simp [VR, hs]) kk
theorem rr_getS {idx k : Nat} (hd : decode cc pc = .ok (.getfield idx, 3)) (hf : FL y.cls idx 6 k) (hs : scal k = true) (hk : k < 36) (hv : ∀ x, S k x = S0 k x) (kk : AW l D cA A ad y cc nL ret R Post cells slots lvR (VR S) sz (pc + 3) L (.inl (S0 k 0) :: st)) : AW l D cA A ad y cc nL ret R Post cells slots lvR (VR S) sz pc L (.inr (some (50, 0)) :: st) :=
  aw_get hd hf (by decide) hk rfl rfl (by simp [VR, hs, hv]) kk
theorem rr_iald {k n : Nat} {x : Int} (hd : decode cc pc = .ok (.iaload, 1)) (hk : Kd 51 k = .inr 0) (hl : lvR 51 k = true) (hn : LnR k = n) (h0 : 0 ≤ x) (h1 : x < (n : Int)) (hv : ∀ x, S k x = S0 k x) (kk : AW l D cA A ad y cc nL ret R Post cells slots lvR (VR S) sz (pc + 1) L (.inl (S0 k x) :: st)) : AW l D cA A ad y cc nL ret R Post cells slots lvR (VR S) sz pc L (.inl x :: .inr (some (51, k)) :: st) :=
  aw_iald hd hk hl h0 (by show x < ((LnR k : Nat) : Int); rw [hn]; exact h1) (by rw [VR_at S k h0, hv]) kk
theorem rr_zald {k n : Nat} {x : Int} (hd : decode cc pc = .ok (.baload, 1)) (hk : Kd 51 k = .inr 1) (hl : lvR 51 k = true) (hn : LnR k = n) (h0 : 0 ≤ x) (h1 : x < (n : Int)) (hv : ∀ x, S k x = S0 k x) (kk : AW l D cA A ad y cc nL ret R Post cells slots lvR (VR S) sz (pc + 1) L (.inl (S0 k x) :: st)) : AW l D cA A ad y cc nL ret R Post cells slots lvR (VR S) sz pc L (.inl x :: .inr (some (51, k)) :: st) :=
  aw_zald hd hk hl h0 (by show x < ((LnR k : Nat) : Int); rw [hn]; exact h1) (by rw [VR_at S k h0, hv]) kk
theorem lvR_scal {k : Nat} (h : lvR 51 k = true) : scal k = false := by
  by_cases hs : scal k = true
  · simp [lvR, hs] at h
  · simpa using hs
theorem rr_iast {k n : Nat} {x v : Int} (hd : decode cc pc = .ok (.iastore, 1)) (hk : Kd 51 k = .inr 0) (hl : lvR 51 k = true) (hn : LnR k = n) (h0 : 0 ≤ x) (h1 : x < (n : Int)) (kk : AW l D cA A ad y cc nL ret R Post cells slots lvR (VR (u2 S k x v)) sz (pc + 1) L st) : AW l D cA A ad y cc nL ret R Post cells slots lvR (VR S) sz pc L (.inl v :: .inl x :: .inr (some (51, k)) :: st) :=
  aw_iast hd hk hl h0 (by show x < ((LnR k : Nat) : Int); rw [hn]; exact h1) (by rw [VR_set S k h0 (lvR_scal hl)]; exact kk)
theorem rr_zast {k n : Nat} {x v : Int} (hd : decode cc pc = .ok (.bastore, 1)) (hk : Kd 51 k = .inr 1) (hl : lvR 51 k = true) (hn : LnR k = n) (h0 : 0 ≤ x) (h1 : x < (n : Int)) (hb : v = 0 ∨ v = 1) (kk : AW l D cA A ad y cc nL ret R Post cells slots lvR (VR (u2 S k x v)) sz (pc + 1) L st) : AW l D cA A ad y cc nL ret R Post cells slots lvR (VR S) sz pc L (.inl v :: .inl x :: .inr (some (51, k)) :: st) :=
  aw_zast hd hk hl h0 (by show x < ((LnR k : Nat) : Int); rw [hn]; exact h1) hb (by rw [VR_set S k h0 (lvR_scal hl)]; exact kk)
theorem AW.vw {lv : Lw} {V V' : Vw} (h : ∀ σ i, lv σ i = true → V' σ i = V σ i) (kk : AW l D cA A ad y cc nL ret R Post cells slots lv V' sz pc L st) : AW l D cA A ad y cc nL ret R Post cells slots lv V sz pc L st := by
  intro p e s m args below meth c H locs ls X hA hH hS hL
  refine kk p e s m args below meth c H locs ls X hA ⟨hH.1, fun σ i hl => ?_, hH.2.2⟩ hS hL
  rw [h σ i hl]
  exact hH.2.1 σ i hl
theorem rr_put {idx k : Nat} {v : Int} (hd : decode cc pc = .ok (.putfield idx, 3)) (hf : FL y.cls idx 6 k) (hs : scal k = true) (hk : k < 36) (hfin : (TT 6 k).2.2.2 = false) (hv : FT (tyT 6 k) (.inl v)) (kk : AW l D cA A ad y cc nL ret R Post cells slots lvR (VR (u2 S k 0 v)) sz (pc + 3) L st) : AW l D cA A ad y cc nL ret R Post cells slots lvR (VR S) sz pc L (.inl v :: .inr (some (50, 0)) :: st) := by
  refine aw_put hd hf (by decide) hk hfin rfl rfl hv (AW.vw (fun σ i hl => ?_) kk)
  by_cases h1 : σ = 50 ∧ i = 0
  · obtain ⟨rfl, rfl⟩ := h1
    exact (VR_put S k hs v).symm
  · rw [s3_cell h1]
    have h2 : σ = 51 ∧ scal i = false := by
      simp only [lvR, Bool.or_eq_true, Bool.and_eq_true, beq_iff_eq, Bool.not_eq_true', decide_eq_true_eq] at hl
      rcases hl with hl | hl
      · exact absurd hl h1
      · exact hl.1
    obtain ⟨rfl, h3⟩ := h2
    have h4 : i ≠ k := fun e => by rw [e, hs] at h3; cases h3
    funext q
    simp [VR, u2, h4]
end RROW
end
section
/-! ===== what the calls do, as functions of the state; both classes are held against them ===== -/
def b2i (b : Bool) : Int := if b = true then 1 else 0
theorem b2i_01 (b : Bool) : b2i b = 0 ∨ b2i b = 1 := by cases b <;> simp [b2i]
theorem b2i_rg (b : Bool) : Rg (b2i b) := by cases b <;> decide
theorem b2i_t : b2i true = 1 := rfl
theorem b2i_f : b2i false = 0 := rfl
def exB (p : Nat → Bool) : Nat → Bool
  | 0 => false
  | n + 1 => exB p n || p n
/-- a ship comes behind its line -/
def jn (S : SS) (s : Int) : SS := u2 (u2 S 32 (30 * S 9 s + S 31 (S 9 s)) s) 31 (S 9 s) (S 31 (S 9 s) + 1)
def stB (S : SS) (c : Int) : Nat → SS
  | 0 => S
  | n + 1 => if S 10 (S 28 (8 * c + n)) ≤ S 0 0 then jn (stB S c n) (S 28 (8 * c + n)) else stB S c n
def stP (S : SS) (c : Int) : Nat → SS
  | 0 => S
  | n + 1 => jn (stP S c n) (S 30 (30 * c + n))
def stC (S : SS) (c : Int) : SS := if S 26 c = S 0 0 then stP (stB S c (S 27 c).toNat) c (S 29 c).toNat else S
def sts (S : SS) : Nat → SS
  | 0 => S
  | n + 1 => stC (sts S n) n
def nx (S : SS) (w : Int) : Nat → Int
  | 0 => -4
  | n + 1 => if (S 25 n = w ∧ S 0 0 < S 26 n) ∧ (nx S w n < 0 ∨ S 26 n < S 26 (nx S w n)) then n else nx S w n
def ltT (S : SS) (s c : Int) : SS := if c < 0 then u2 S 18 s 1 else u2 (u2 (u2 S 30 (30 * c + S 29 c) s) 29 c (S 29 c + 1)) 22 s c
def lt1 (S : SS) (s : Int) : SS :=
  if S 10 s = S 0 0 ∧ 0 ≤ S 22 s ∧ S 26 (S 22 s) < S 0 0 then
    (if S 2 0 = 1 then jn (u2 S 17 s 1) s else ltT (u2 S 17 s 1) s (nx S (S 9 s) (S 24 0).toNat))
  else S
def lts (S : SS) : Nat → SS
  | 0 => S
  | n + 1 => lt1 (lts S n) n
def agP (S : SS) (sec : Int) (n : Nat) : Bool := decide (S 15 n = sec ∧ 0 < S 21 n)
def isAgr (S : SS) (sec : Int) : Bool := exB (agP S sec) (S 8 0).toNat
def lowF (S : SS) : Nat → Nat
  | 0 => 0
  | n + 1 => if S 5 n = 0 then lowF S n else n + 1
def onUp (S : SS) (o : Int) : Nat → Nat → Bool
  | _, 0 => false
  | k, f + 1 => if S 5 k = 0 then (decide (0 < S 33 (2 * (k : Int) + o)) || onUp S o (k + 1) f) else false
def isOnc (S : SS) (sec : Nat) (o : Int) : Bool := onUp S o (lowF S sec) (8 - lowF S sec)
def hr (S : SS) : Int := S 0 0 / 60 % 24
def deep (S : SS) (sec : Int) : Int := S 4 sec + (if sec = 0 ∨ sec = 7 then S 6 (hr S) else 0)
def cause (S : SS) (s : Int) (sec : Nat) : Int :=
  if isAgr S sec = true then 0
  else if S 5 sec = 0 ∧ isOnc S sec (1 - S 9 s) = true then 1
  else if S 33 (2 * sec + S 9 s) = 3 then 2
  else if S 0 0 - S 35 (2 * sec + S 9 s) < S 1 0 then 3
  else if deep S sec < S 12 s then 4
  else if S 11 s ≠ 0 ∧ S 5 sec = 0 ∧ (S 7 (hr S) < 0 ∨ 6 < S 7 (hr S)) then 5 else -1
def ent (S : SS) (s sec : Int) : SS :=
  u2 (u2 (u2 (u2 (u2 S 34 (30 * (2 * sec + S 9 s) + S 33 (2 * sec + S 9 s)) s) 33 (2 * sec + S 9 s) (S 33 (2 * sec + S 9 s) + 1)) 35 (2 * sec + S 9 s) (S 0 0)) 15 s sec) 16 s (if S 13 s = 0 then S 3 sec else 2 * S 3 sec)
/-- the places b + 1 .. b + n of an array go one place ahead -/
def shf (S : SS) (k : Nat) (b : Int) : Nat → SS
  | 0 => S
  | n + 1 => u2 (shf S k b n) k (b + n) (shf S k b n k (b + n + 1))
def lvs (S : SS) (sec w : Int) : SS := shf (u2 S 33 (2 * sec + w) (S 33 (2 * sec + w) - 1)) 34 (30 * (2 * sec + w)) (S 33 (2 * sec + w) - 1).toNat
def wt (S : SS) (x : Int) : SS := u2 S 23 x (S 23 x + 1)
def goE (S : SS) (sec : Int) (s : Int) : SS := u2 (u2 (lvs S sec (S 9 s)) 15 s 8) 20 s (S 0 0)
def gos (S : SS) (s : Int) (sec : Nat) : Bool × SS :=
  if (sec : Int) = (if S 9 s = 0 then 7 else 0) then (true, goE S sec s)
  else if 0 ≤ cause S s (if S 9 s = 0 then sec + 1 else sec - 1) then (false, wt S (7 * s + cause S s (if S 9 s = 0 then sec + 1 else sec - 1)))
  else (true, ent (lvs S sec (S 9 s)) s (if S 9 s = 0 then (sec : Int) + 1 else (sec : Int) - 1))
def tk (S : SS) (s : Int) : SS := u2 S 16 s (S 16 s - (if 0 < S 16 s then 1 else 0))
/-- those in a section of a way: from the k-th on, f of them at most -/
def mvF (sec : Nat) (w : Int) : Nat → SS → Nat → Bool → SS
  | 0, S, _, _ => S
  | f + 1, S, k, stuck =>
    if (k : Int) < S 33 (2 * sec + w) then
      let s := S 34 (30 * (2 * sec + w) + k)
      if (stuck || decide (0 < S 21 s)) = true then mvF sec w f (wt S (7 * s)) (k + 1) true
      else if tk S s 16 s = 0 then
        (if k = 0 then mvF sec w f (gos (tk S s) s sec).2 (if (gos (tk S s) s sec).1 = true then 0 else 1) false
        else mvF sec w f (wt (tk S s) (7 * s + 6)) (k + 1) false)
      else mvF sec w f (tk S s) (k + 1) false
    else S
def mvs (S : SS) (sec : Nat) (w : Int) : SS := mvF sec w (S 33 (2 * sec + w)).toNat S 0 false
def qw (S : SS) (w : Int) : Nat → SS
  | 0 => S
  | n + 1 => wt (qw S w n) (7 * S 32 (30 * w + (n + 1)) + 6)
def cmI (S : SS) (w : Int) : SS :=
  let s := S 32 (30 * w)
  let sec : Nat := if w = 0 then 0 else 7
  let T := qw S w ((S 31 w).toNat - 1)
  if 0 ≤ cause S s sec then wt T (7 * s + cause S s sec)
  else ent (u2 (shf (u2 T 31 w (S 31 w - 1)) 32 (30 * w) (S 31 w - 1).toNat) 19 s (S 0 0)) s sec
def cm (S : SS) (w : Int) : SS := if S 31 w = 0 then S else cmI S w
def agd (S : SS) : Nat → SS
  | 0 => S
  | n + 1 => u2 (agd S n) 21 n (S 21 n - (if 0 < S 21 n then 1 else 0))
def mvN (S : SS) : Nat → SS
  | 0 => S
  | n + 1 => mvs (mvN S n) (7 - n) 0
def mvS (S : SS) : Nat → SS
  | 0 => S
  | n + 1 => mvs (mvS S n) n 1
def mt1 (S : SS) : SS := sts S (S 24 0).toNat
def mt2 (S : SS) : SS := lts (mt1 S) (S 8 0).toNat
def mt3 (S : SS) : SS := mvN (mt2 S) 8
def mt4 (S : SS) : SS := mvS (mt3 S) 8
def mt5 (S : SS) : SS := cm (mt4 S) 0
def mt6 (S : SS) : SS := cm (mt5 S) 1
def mt (S : SS) : SS := u2 (agd (mt6 S) (S 8 0).toNat) 0 0 (S 0 0 + 1)
def mts (S : SS) : Nat → SS
  | 0 => S
  | n + 1 => mt (mts S n)
def due0 (t : Int) : Int := if t ≤ 5000 then 3 * t else if t ≤ 20000 then 15000 + 2 * (t - 5000) else 45000 + t - 20000
def due1 (t late : Int) : Int := due0 t + (if late = 0 then 0 else due0 t / 10)
def dues (S : SS) (s : Int) : Int := due1 (S 14 s) (S 17 s) - (if Int32.ofInt (S 23 (7 * s)) ≤ Int32.ofInt 60 then 0 else due1 (S 14 s) (S 17 s) / 20)
def wsum (S : SS) (s c : Int) : Nat → Int
  | 0 => 0
  | n + 1 => wsum S s c n + (if c < 0 ∨ c = n then S 23 (7 * s + n) else 0)
def cnt (p : Nat → Bool) : Nat → Int
  | 0 => 0
  | n + 1 => cnt p n + b2i (p n)
def sev1 (S : SS) (s : Int) : Int := b2i (decide (0 < S 33 (2 * s))) + b2i (decide (0 < S 33 (2 * s + 1)))
def sev (S : SS) : Nat → Int
  | 0 => 0
  | n + 1 => if S 5 n = 0 ∧ sev S n < sev1 S n then sev1 S n else sev S n
/-- all numbers lie where they should: of every place of every array -/
def bsh (S : SS) (s : Int) : Prop := (S 9 s = 0 ∨ S 9 s = 1) ∧ (0 ≤ S 10 s ∧ S 10 s ≤ 9999) ∧ (S 11 s = 0 ∨ S 11 s = 1) ∧ (0 ≤ S 12 s ∧ S 12 s ≤ 45) ∧ (S 13 s = 0 ∨ S 13 s = 1) ∧ (0 ≤ S 14 s ∧ S 14 s ≤ 200000) ∧ (-1 ≤ S 15 s ∧ S 15 s ≤ 8) ∧ (0 ≤ S 16 s ∧ S 16 s ≤ 120) ∧ (S 17 s = 0 ∨ S 17 s = 1) ∧ (S 18 s = 0 ∨ S 18 s = 1) ∧ (0 ≤ S 21 s ∧ S 21 s ≤ 500) ∧ (-4 ≤ S 22 s ∧ S 22 s < 12)
def bcv (S : SS) (c : Int) : Prop := (S 25 c = 0 ∨ S 25 c = 1) ∧ (0 ≤ S 26 c ∧ S 26 c ≤ 9999) ∧ (0 ≤ S 27 c ∧ S 27 c ≤ 8) ∧ (0 ≤ S 29 c ∧ S 29 c ≤ 30)
def bsc (S : SS) (i : Int) : Prop := (1 ≤ S 3 i ∧ S 3 i ≤ 60) ∧ (1 ≤ S 4 i ∧ S 4 i ≤ 40) ∧ (S 5 i = 0 ∨ S 5 i = 1)
def bsm (S : SS) : Prop := (0 ≤ S 0 0 ∧ S 0 0 ≤ 10000) ∧ (0 ≤ S 1 0 ∧ S 1 0 ≤ 60) ∧ (S 2 0 = 0 ∨ S 2 0 = 1) ∧ (0 ≤ S 8 0 ∧ S 8 0 ≤ 30) ∧ (0 ≤ S 24 0 ∧ S 24 0 ≤ 12)
def BB (S : SS) : Prop := bsm S ∧ (∀ s, 0 ≤ s → s < 30 → bsh S s) ∧ (∀ c, 0 ≤ c → c < 12 → bcv S c) ∧ (∀ i, 0 ≤ i → i < 8 → bsc S i) ∧ (∀ h, 0 ≤ h → h < 24 → (0 ≤ S 6 h ∧ S 6 h ≤ 9) ∧ -1 ≤ S 7 h ∧ S 7 h ≤ 12) ∧ (∀ w, 0 ≤ w → w < 2 → 0 ≤ S 31 w ∧ S 31 w ≤ 30) ∧ (∀ a, 0 ≤ a → a < 16 → (0 ≤ S 33 a ∧ S 33 a ≤ 3) ∧ -1000 ≤ S 35 a ∧ S 35 a ≤ 10000) ∧ (∀ x, 0 ≤ x → x < 60 → 0 ≤ S 32 x ∧ S 32 x < 30) ∧ (∀ x, 0 ≤ x → x < 480 → 0 ≤ S 34 x ∧ S 34 x < 30) ∧ (∀ x, 0 ≤ x → x < 96 → 0 ≤ S 28 x ∧ S 28 x < 30) ∧ (∀ x, 0 ≤ x → x < 360 → 0 ≤ S 30 x ∧ S 30 x < 30)
theorem BB.m {S : SS} (h : BB S) : bsm S := h.1
theorem BB.sh {S : SS} (h : BB S) {s : Int} (h0 : 0 ≤ s) (h1 : s < 30) : bsh S s := h.2.1 s h0 h1
theorem BB.cv {S : SS} (h : BB S) {c : Int} (h0 : 0 ≤ c) (h1 : c < 12) : bcv S c := h.2.2.1 c h0 h1
theorem BB.sc {S : SS} (h : BB S) {i : Int} (h0 : 0 ≤ i) (h1 : i < 8) : bsc S i := h.2.2.2.1 i h0 h1
theorem BB.tw {S : SS} (h : BB S) {i : Int} (h0 : 0 ≤ i) (h1 : i < 24) : (0 ≤ S 6 i ∧ S 6 i ≤ 9) ∧ -1 ≤ S 7 i ∧ S 7 i ≤ 12 := h.2.2.2.2.1 i h0 h1
theorem BB.ln {S : SS} (h : BB S) {w : Int} (h0 : 0 ≤ w) (h1 : w < 2) : 0 ≤ S 31 w ∧ S 31 w ≤ 30 := h.2.2.2.2.2.1 w h0 h1
theorem BB.iM {S : SS} (h : BB S) {a : Int} (h0 : 0 ≤ a) (h1 : a < 16) : (0 ≤ S 33 a ∧ S 33 a ≤ 3) ∧ -1000 ≤ S 35 a ∧ S 35 a ≤ 10000 := h.2.2.2.2.2.2.1 a h0 h1
theorem BB.li {S : SS} (h : BB S) {x : Int} (h0 : 0 ≤ x) (h1 : x < 60) : 0 ≤ S 32 x ∧ S 32 x < 30 := h.2.2.2.2.2.2.2.1 x h0 h1
theorem BB.ins {S : SS} (h : BB S) {x : Int} (h0 : 0 ≤ x) (h1 : x < 480) : 0 ≤ S 34 x ∧ S 34 x < 30 := h.2.2.2.2.2.2.2.2.1 x h0 h1
theorem BB.bk {S : SS} (h : BB S) {x : Int} (h0 : 0 ≤ x) (h1 : x < 96) : 0 ≤ S 28 x ∧ S 28 x < 30 := h.2.2.2.2.2.2.2.2.2.1 x h0 h1
theorem BB.pt {S : SS} (h : BB S) {x : Int} (h0 : 0 ≤ x) (h1 : x < 360) : 0 ≤ S 30 x ∧ S 30 x < 30 := h.2.2.2.2.2.2.2.2.2.2 x h0 h1
section ENG4
variable {l : Launch} {D : va_G} {cA : Nat → ClassId} {A : Nat → Prop} {ad : Ad} {y : MethodName} {cc : ByteArray} {nL : Nat} {ret : Option FieldType} {R : Room} {Post : Pst} {cells slots : Nat} {lv : Lw} {V : Vw} {sz pc : Nat} {L : List (Option AV)} {st : List AV}
theorem CT.of2 {av : List AV} (L : List (Option AV)) (hy : plainName y.cls = true) (hn : av.length ≤ nL) (hL : av.map some ++ List.replicate (nL - av.length) none = L) (h : AW l D cA A ad y cc nL ret R Post 0 0 lv V sz 0 L []) : CT l D cA A ad y cc nL ret R av lv V sz Post := CT.of hy hn (by rw [hL]; exact h)
theorem AW.to {L' : List (Option AV)} {st' : List AV} (kk : AW l D cA A ad y cc nL ret R Post cells slots lv V sz pc L st) (hL : L' = L) (hs : st' = st) : AW l D cA A ad y cc nL ret R Post cells slots lv V sz pc L' st' := by rw [hL, hs]; exact kk
theorem AW.toV {L' : List (Option AV)} {V' : Vw} (kk : AW l D cA A ad y cc nL ret R Post cells slots lv V sz pc L st) (hL : L' = L) (hV : V' = V) : AW l D cA A ad y cc nL ret R Post cells slots lv V' sz pc L' st := by rw [hL, hV]; exact kk
end ENG4
/-- fewer locals known -/
def lessL : List (Option AV) → List (Option AV) → Prop
  | [], _ => True
  | none :: a, _ :: b => lessL a b
  | some x :: a, some z :: b => x = z ∧ lessL a b
  | _, _ => False
theorem lessL_at : ∀ (a b : List (Option AV)) (i : Nat) (v : AV), lessL a b → a[i]? = some (some v) → b[i]? = some (some v)
  | [], _, i, v, _, h => by simp at h
  | none :: a, [], i, v, hl, h => hl.elim
  | none :: a, z :: b, 0, v, hl, h => by simp at h
  | none :: a, z :: b, i + 1, v, hl, h => by
    simp only [List.getElem?_cons_succ] at h ⊢
    exact lessL_at a b i v hl h
  | some x :: a, [], i, v, hl, h => hl.elim
  | some x :: a, none :: b, i, v, hl, h => hl.elim
  | some x :: a, some z :: b, 0, v, hl, h => by
    simp only [List.getElem?_cons_zero] at h ⊢
    rw [← hl.1]; exact h
  | some x :: a, some z :: b, i + 1, v, hl, h => by
    simp only [List.getElem?_cons_succ] at h ⊢
    exact lessL_at a b i v hl.2 h
theorem AW.less {l : Launch} {D : va_G} {cA : Nat → ClassId} {A : Nat → Prop} {ad : Ad} {y : MethodName} {cc : ByteArray} {nL : Nat} {ret : Option FieldType} {R : Room} {Post : Pst} {cells slots : Nat} {lv : Lw} {V : Vw} {sz pc : Nat} {L L0 : List (Option AV)} {st : List AV} (h : lessL L0 L) (kk : AW l D cA A ad y cc nL ret R Post cells slots lv V sz pc L0 st) : AW l D cA A ad y cc nL ret R Post cells slots lv V sz pc L st := by
  intro p e s m args below meth c H locs ls X hA hH hS hL
  exact kk p e s m args below meth c H locs ls X hA hH hS ⟨hL.1, hL.2.1, fun i v hi => hL.2.2 i v (lessL_at _ _ i v h hi)⟩
theorem AW.lss {l : Launch} {D : va_G} {cA : Nat → ClassId} {A : Nat → Prop} {ad : Ad} {y : MethodName} {cc : ByteArray} {nL : Nat} {ret : Option FieldType} {R : Room} {Post : Pst} {cells slots : Nat} {lv : Lw} {V : Vw} {sz pc : Nat} {L L0 : List (Option AV)} {st : List AV} (kk : AW l D cA A ad y cc nL ret R Post cells slots lv V sz pc L0 st) (h : lessL L0 L) : AW l D cA A ad y cc nL ret R Post cells slots lv V sz pc L st := AW.less h kk
theorem AW.lsV {l : Launch} {D : va_G} {cA : Nat → ClassId} {A : Nat → Prop} {ad : Ad} {y : MethodName} {cc : ByteArray} {nL : Nat} {ret : Option FieldType} {R : Room} {Post : Pst} {cells slots : Nat} {lv : Lw} {V V' : Vw} {sz pc : Nat} {L L0 : List (Option AV)} {st : List AV} (kk : AW l D cA A ad y cc nL ret R Post cells slots lv V sz pc L0 st) (h : lessL L0 L) (hV : V' = V) : AW l D cA A ad y cc nL ret R Post cells slots lv V' sz pc L st := by rw [hV]; exact AW.less h kk
end
section
section REF1
variable {l : Launch} {D : va_G} {cA : Nat → ClassId} {A : Nat → Prop} {ad : Ad} {lv : Lw} {V : Vw} {sz : Nat} {S : SS}
/-- an answer 1 or 0 by a condition, nothing changed -/
def PB (P : Prop) (lv : Lw) (V : Vw) (sz : Nat) : Pst := fun r lv' V' sz' => ((r = some (.inl 1) ∧ P) ∨ (r = some (.inl 0) ∧ ¬ P)) ∧ lv' = lv ∧ V' = V ∧ sz' = sz
theorem c_X6_isIn {v a b : Int} (hv : Rg v) (ha : Rg a) (hb : Rg b) : CT l D cA A ad yX6_isIn cX6_isIn 3 (some .boolean) rm_X6_isIn [.inl v, .inl a, .inl b] lv V sz (PB (a ≤ v ∧ v ≤ b) lv V sz) := by
  refine CT.of2 [some (.inl v), some (.inl a), some (.inl b)] (by decide) (Nat.le_of_ble_eq_true rfl) rfl ?_
  refine aw_iload_n dX6_isIn_0 rfl rfl ?_
  refine aw_iload_n dX6_isIn_1 rfl rfl ?_
  refine aw_icmp_lt (tgt := 14) dX6_isIn_2 (by decide) (by omega) (by omega) (fun c_2 => ?_) (fun c_2 => ?_)
  · refine aw_iconst dX6_isIn_14 ?_
    refine aw_zret dX6_isIn_15 rfl (by decide) (Nat.zero_le _) (Nat.zero_le _) ?_
    first | exact ⟨Or.inl ⟨rfl, by omega⟩, rfl, rfl, rfl⟩ | exact ⟨Or.inr ⟨rfl, by omega⟩, rfl, rfl, rfl⟩
  · refine aw_iload_n dX6_isIn_5 rfl rfl ?_
    refine aw_iload_n dX6_isIn_6 rfl rfl ?_
    refine aw_icmp_gt (tgt := 14) dX6_isIn_7 (by decide) (by omega) (by omega) (fun c_7 => ?_) (fun c_7 => ?_)
    · refine aw_iconst dX6_isIn_14 ?_
      refine aw_zret dX6_isIn_15 rfl (by decide) (Nat.zero_le _) (Nat.zero_le _) ?_
      first | exact ⟨Or.inl ⟨rfl, by omega⟩, rfl, rfl, rfl⟩ | exact ⟨Or.inr ⟨rfl, by omega⟩, rfl, rfl, rfl⟩
    · refine aw_iconst dX6_isIn_10 ?_
      refine aw_goto (tgt := 15) dX6_isIn_11 (by decide) ?_
      refine aw_zret dX6_isIn_15 rfl (by decide) (Nat.zero_le _) (Nat.zero_le _) ?_
      first | exact ⟨Or.inl ⟨rfl, by omega⟩, rfl, rfl, rfl⟩ | exact ⟨Or.inr ⟨rfl, by omega⟩, rfl, rfl, rfl⟩
def opSec (S : SS) (s ln d b : Int) : Int × SS := if ¬ ((0 ≤ s ∧ s ≤ 7) ∧ (1 ≤ ln ∧ ln ≤ 60) ∧ (1 ≤ d ∧ d ≤ 40)) then (-1, S) else if 0 < S 0 0 then (-2, S) else (0, u2 (u2 (u2 S 3 s ln) 4 s d) 5 s b)
def opTide (S : SS) (h v : Int) : Int × SS := if ¬ ((0 ≤ h ∧ h ≤ 23) ∧ (0 ≤ v ∧ v ≤ 9)) then (-1, S) else (S 6 h, u2 S 6 h v)
def opWind (S : SS) (h v : Int) : Int × SS := if ¬ ((0 ≤ h ∧ h ≤ 23) ∧ (-1 ≤ v ∧ v ≤ 12)) then (-9, S) else (S 7 h, u2 S 7 h v)
def opRule (S : SS) (w v : Int) : Int × SS := if w = 0 ∧ 0 ≤ v ∧ v ≤ 60 then (S 1 0, u2 S 1 0 v) else if w = 1 ∧ 0 ≤ v ∧ v ≤ 1 then (S 2 0, u2 S 2 0 v) else (-1, S)
def opShip (S : SS) (w m g d sl t : Int) : Int × SS := if ¬ ((0 ≤ w ∧ w ≤ 1) ∧ (0 ≤ m ∧ m ≤ 9999) ∧ (1 ≤ d ∧ d ≤ 45) ∧ (1 ≤ t ∧ t ≤ 200000)) then (-1, S) else if m < S 0 0 then (-2, S) else if S 8 0 = 30 then (-3, S) else (S 8 0, u2 (u2 (u2 (u2 (u2 (u2 (u2 (u2 (u2 (u2 (u2 S 9 (S 8 0) w) 10 (S 8 0) m) 11 (S 8 0) g) 12 (S 8 0) d) 13 (S 8 0) sl) 14 (S 8 0) t) 15 (S 8 0) (-1)) 19 (S 8 0) (-4)) 20 (S 8 0) (-4)) 22 (S 8 0) (-4)) 8 0 (S 8 0 + 1))
def opConv (S : SS) (w f : Int) : Int × SS := if ¬ ((0 ≤ w ∧ w ≤ 1) ∧ (0 ≤ f ∧ f ≤ 9999)) then (-1, S) else if f ≤ S 0 0 then (-2, S) else if S 24 0 = 12 then (-3, S) else (S 24 0, u2 (u2 (u2 S 25 (S 24 0) w) 26 (S 24 0) f) 24 0 (S 24 0 + 1))
def opBook (S : SS) (c s : Int) : Int × SS := if ¬ ((0 ≤ c ∧ c ≤ S 24 0 - 1) ∧ (0 ≤ s ∧ s ≤ S 8 0 - 1)) then (-1, S) else if S 9 s ≠ S 25 c ∨ S 22 s ≠ -4 ∨ S 18 s ≠ 0 ∨ S 26 c ≤ S 0 0 ∨ S 10 s < S 0 0 then (-2, S) else if S 27 c = 8 then (-3, S) else (S 27 c + 1, u2 (u2 (u2 S 28 (8 * c + S 27 c) s) 27 c (S 27 c + 1)) 22 s c)
def opGrd (S : SS) (s n : Int) : Int × SS := if ¬ ((0 ≤ s ∧ s ≤ S 8 0 - 1) ∧ (1 ≤ n ∧ n ≤ 500)) then (-1, S) else if ¬ (0 ≤ S 15 s ∧ S 15 s ≤ 7) ∨ 0 < S 21 s then (-2, S) else (1, u2 S 21 s n)
set_option maxRecDepth 100000 in
set_option maxHeartbeats 4000000 in
theorem c_X6_section {s ln d b : Int} (hB : BB S) (hs : Rg s) (hl : Rg ln) (hd : Rg d) (hb : b = 0 ∨ b = 1) : CT l D cA A ad yX6_section cX6_section 5 (some .int) rm_X6_section [.inr (some (50, 0)), .inl s, .inl ln, .inl d, .inl b] lvR (VR S) sz (PR (some (.inl (opSec S s ln d b).1)) ((opSec S s ln d b).2) sz) := by
  refine CT.of2 [some (.inr (some (50, 0))), some (.inl s), some (.inl ln), some (.inl d), some (.inl b)] (by decide) (Nat.le_of_ble_eq_true rfl) rfl ?_
  have hm := hB.m
  simp only [bsm] at hm
  refine aw_iload_n dX6_section_0 rfl rfl ?_
  refine aw_iconst dX6_section_1 ?_
  refine aw_bipush dX6_section_2 (by decide) ?_
  refine aw_callS (c_X6_isIn (by omega) (by omega) (by omega)) mv_X6_isIn mlX6_108 dX6_section_4 (by decide) rfl (Nat.le_of_ble_eq_true rfl) rfl ?_
  rintro _ _ _ _ ⟨⟨rfl, h1⟩ | ⟨rfl, h1⟩, rfl, rfl, rfl⟩
  · refine aw_if_eq (tgt := 30) dX6_section_7 (by decide) (by omega) (fun c_7 => absurd c_7 (by decide)) (fun _ => ?_)
    refine aw_iload_n dX6_section_10 rfl rfl ?_
    refine aw_iconst dX6_section_11 ?_
    refine aw_bipush dX6_section_12 (by decide) ?_
    refine aw_callS (c_X6_isIn (by omega) (by omega) (by omega)) mv_X6_isIn mlX6_108 dX6_section_14 (by decide) rfl (Nat.le_of_ble_eq_true rfl) rfl ?_
    rintro _ _ _ _ ⟨⟨rfl, h2⟩ | ⟨rfl, h2⟩, rfl, rfl, rfl⟩
    · refine aw_if_eq (tgt := 30) dX6_section_17 (by decide) (by omega) (fun c_17 => absurd c_17 (by decide)) (fun _ => ?_)
      refine aw_iload_n dX6_section_20 rfl rfl ?_
      refine aw_iconst dX6_section_21 ?_
      refine aw_bipush dX6_section_22 (by decide) ?_
      refine aw_callS (c_X6_isIn (by omega) (by omega) (by omega)) mv_X6_isIn mlX6_108 dX6_section_24 (by decide) rfl (Nat.le_of_ble_eq_true rfl) rfl ?_
      rintro _ _ _ _ ⟨⟨rfl, h3⟩ | ⟨rfl, h3⟩, rfl, rfl, rfl⟩
      · refine aw_if_ne (tgt := 32) dX6_section_27 (by decide) (by omega) (fun _ => ?_) (fun c_27 => absurd c_27 (by decide))
        refine aw_aload_n dX6_section_32 rfl rfl ?_
        refine rr_getS dX6_section_33 flX6_112 rfl (by decide) (fun _ => rfl) ?_
        refine aw_if_le (tgt := 42) dX6_section_36 (by decide) (by omega) (fun c_36 => ?_) (fun c_36 => ?_)
        · refine aw_aload_n dX6_section_42 rfl rfl ?_
          refine rr_getA dX6_section_43 flX6_13 rfl (by decide) ?_
          refine aw_iload_n dX6_section_46 rfl rfl ?_
          refine aw_iload_n dX6_section_47 rfl rfl ?_
          refine rr_iast (n := 8) dX6_section_48 rfl rfl rfl (by omega) (by omega) ?_
          refine aw_aload_n dX6_section_49 rfl rfl ?_
          refine rr_getA dX6_section_50 flX6_17 rfl (by decide) ?_
          refine aw_iload_n dX6_section_53 rfl rfl ?_
          refine aw_iload_n dX6_section_54 rfl rfl ?_
          refine rr_iast (n := 8) dX6_section_55 rfl rfl rfl (by omega) (by omega) ?_
          refine aw_aload_n dX6_section_56 rfl rfl ?_
          refine rr_getA dX6_section_57 flX6_20 rfl (by decide) ?_
          refine aw_iload_n dX6_section_60 rfl rfl ?_
          refine aw_iload dX6_section_61 rfl ?_
          refine rr_zast (n := 8) dX6_section_63 rfl rfl rfl (by omega) (by omega) (by omega) ?_
          refine aw_iconst dX6_section_64 ?_
          refine aw_iret dX6_section_65 rfl (Nat.zero_le _) (Nat.zero_le _) ?_
          have e : opSec S s ln d b = (0, u2 (u2 (u2 S 3 s ln) 4 s d) 5 s b) := by
            unfold opSec
            repeat (first | rw [if_pos (by omega)] | rw [if_neg (by omega)])
          rw [e]
          exact ⟨rfl, rfl, rfl, rfl⟩
        · refine aw_bipush dX6_section_39 (by decide) ?_
          refine aw_iret dX6_section_41 rfl (Nat.zero_le _) (Nat.zero_le _) ?_
          have e : opSec S s ln d b = (-2, S) := by
            unfold opSec
            repeat (first | rw [if_pos (by omega)] | rw [if_neg (by omega)])
          rw [e]
          exact ⟨rfl, rfl, rfl, rfl⟩
      · refine aw_if_ne (tgt := 32) dX6_section_27 (by decide) (by omega) (fun c_27 => absurd c_27 (by decide)) (fun _ => ?_)
        refine aw_iconst dX6_section_30 ?_
        refine aw_iret dX6_section_31 rfl (Nat.zero_le _) (Nat.zero_le _) ?_
        have e : opSec S s ln d b = (-1, S) := by
          unfold opSec
          repeat (first | rw [if_pos (by omega)] | rw [if_neg (by omega)])
        rw [e]
        exact ⟨rfl, rfl, rfl, rfl⟩
    · refine aw_if_eq (tgt := 30) dX6_section_17 (by decide) (by omega) (fun _ => ?_) (fun c_17 => absurd c_17 (by decide))
      refine aw_iconst dX6_section_30 ?_
      refine aw_iret dX6_section_31 rfl (Nat.zero_le _) (Nat.zero_le _) ?_
      have e : opSec S s ln d b = (-1, S) := by
        unfold opSec
        repeat (first | rw [if_pos (by omega)] | rw [if_neg (by omega)])
      rw [e]
      exact ⟨rfl, rfl, rfl, rfl⟩
  · refine aw_if_eq (tgt := 30) dX6_section_7 (by decide) (by omega) (fun _ => ?_) (fun c_7 => absurd c_7 (by decide))
    refine aw_iconst dX6_section_30 ?_
    refine aw_iret dX6_section_31 rfl (Nat.zero_le _) (Nat.zero_le _) ?_
    have e : opSec S s ln d b = (-1, S) := by
      unfold opSec
      repeat (first | rw [if_pos (by omega)] | rw [if_neg (by omega)])
    rw [e]
    exact ⟨rfl, rfl, rfl, rfl⟩
set_option maxRecDepth 100000 in
set_option maxHeartbeats 4000000 in
theorem c_X6_tide {h v : Int} (hh : Rg h) (hv : Rg v) : CT l D cA A ad yX6_tide cX6_tide 4 (some .int) rm_X6_tide [.inr (some (50, 0)), .inl h, .inl v] lvR (VR S) sz (PR (some (.inl (opTide S h v).1)) ((opTide S h v).2) sz) := by
  refine CT.of2 [some (.inr (some (50, 0))), some (.inl h), some (.inl v), none] (by decide) (Nat.le_of_ble_eq_true rfl) rfl ?_
  refine aw_iload_n dX6_tide_0 rfl rfl ?_
  refine aw_iconst dX6_tide_1 ?_
  refine aw_bipush dX6_tide_2 (by decide) ?_
  refine aw_callS (c_X6_isIn (by omega) (by omega) (by omega)) mv_X6_isIn mlX6_108 dX6_tide_4 (by decide) rfl (Nat.le_of_ble_eq_true rfl) rfl ?_
  rintro _ _ _ _ ⟨⟨rfl, h1⟩ | ⟨rfl, h1⟩, rfl, rfl, rfl⟩
  · refine aw_if_eq (tgt := 20) dX6_tide_7 (by decide) (by omega) (fun c_7 => absurd c_7 (by decide)) (fun _ => ?_)
    refine aw_iload_n dX6_tide_10 rfl rfl ?_
    refine aw_iconst dX6_tide_11 ?_
    refine aw_bipush dX6_tide_12 (by decide) ?_
    refine aw_callS (c_X6_isIn (by omega) (by omega) (by omega)) mv_X6_isIn mlX6_108 dX6_tide_14 (by decide) rfl (Nat.le_of_ble_eq_true rfl) rfl ?_
    rintro _ _ _ _ ⟨⟨rfl, h2⟩ | ⟨rfl, h2⟩, rfl, rfl, rfl⟩
    · refine aw_if_ne (tgt := 22) dX6_tide_17 (by decide) (by omega) (fun _ => ?_) (fun c_17 => absurd c_17 (by decide))
      refine aw_aload_n dX6_tide_22 rfl rfl ?_
      refine rr_getA dX6_tide_23 flX6_24 rfl (by decide) ?_
      refine aw_iload_n dX6_tide_26 rfl rfl ?_
      refine rr_iald (n := 24) dX6_tide_27 rfl rfl rfl (by omega) (by omega) (fun _ => rfl) ?_
      refine aw_istore_n dX6_tide_28 rfl (by decide) ?_
      refine aw_aload_n dX6_tide_29 rfl rfl ?_
      refine rr_getA dX6_tide_30 flX6_24 rfl (by decide) ?_
      refine aw_iload_n dX6_tide_33 rfl rfl ?_
      refine aw_iload_n dX6_tide_34 rfl rfl ?_
      refine rr_iast (n := 24) dX6_tide_35 rfl rfl rfl (by omega) (by omega) ?_
      refine aw_iload_n dX6_tide_36 rfl rfl ?_
      refine aw_iret dX6_tide_37 rfl (Nat.zero_le _) (Nat.zero_le _) ?_
      have e : opTide S h v = (S 6 h, u2 S 6 h v) := by
        unfold opTide
        repeat (first | rw [if_pos (by omega)] | rw [if_neg (by omega)])
      rw [e]
      exact ⟨rfl, rfl, rfl, rfl⟩
    · refine aw_if_ne (tgt := 22) dX6_tide_17 (by decide) (by omega) (fun c_17 => absurd c_17 (by decide)) (fun _ => ?_)
      refine aw_iconst dX6_tide_20 ?_
      refine aw_iret dX6_tide_21 rfl (Nat.zero_le _) (Nat.zero_le _) ?_
      have e : opTide S h v = (-1, S) := by
        unfold opTide
        repeat (first | rw [if_pos (by omega)] | rw [if_neg (by omega)])
      rw [e]
      exact ⟨rfl, rfl, rfl, rfl⟩
  · refine aw_if_eq (tgt := 20) dX6_tide_7 (by decide) (by omega) (fun _ => ?_) (fun c_7 => absurd c_7 (by decide))
    refine aw_iconst dX6_tide_20 ?_
    refine aw_iret dX6_tide_21 rfl (Nat.zero_le _) (Nat.zero_le _) ?_
    have e : opTide S h v = (-1, S) := by
      unfold opTide
      repeat (first | rw [if_pos (by omega)] | rw [if_neg (by omega)])
    rw [e]
    exact ⟨rfl, rfl, rfl, rfl⟩
set_option maxRecDepth 100000 in
set_option maxHeartbeats 4000000 in
theorem c_X6_wind {h v : Int} (hh : Rg h) (hv : Rg v) : CT l D cA A ad yX6_wind cX6_wind 4 (some .int) rm_X6_wind [.inr (some (50, 0)), .inl h, .inl v] lvR (VR S) sz (PR (some (.inl (opWind S h v).1)) ((opWind S h v).2) sz) := by
  refine CT.of2 [some (.inr (some (50, 0))), some (.inl h), some (.inl v), none] (by decide) (Nat.le_of_ble_eq_true rfl) rfl ?_
  refine aw_iload_n dX6_wind_0 rfl rfl ?_
  refine aw_iconst dX6_wind_1 ?_
  refine aw_bipush dX6_wind_2 (by decide) ?_
  refine aw_callS (c_X6_isIn (by omega) (by omega) (by omega)) mv_X6_isIn mlX6_108 dX6_wind_4 (by decide) rfl (Nat.le_of_ble_eq_true rfl) rfl ?_
  rintro _ _ _ _ ⟨⟨rfl, h1⟩ | ⟨rfl, h1⟩, rfl, rfl, rfl⟩
  · refine aw_if_eq (tgt := 20) dX6_wind_7 (by decide) (by omega) (fun c_7 => absurd c_7 (by decide)) (fun _ => ?_)
    refine aw_iload_n dX6_wind_10 rfl rfl ?_
    refine aw_iconst dX6_wind_11 ?_
    refine aw_bipush dX6_wind_12 (by decide) ?_
    refine aw_callS (c_X6_isIn (by omega) (by omega) (by omega)) mv_X6_isIn mlX6_108 dX6_wind_14 (by decide) rfl (Nat.le_of_ble_eq_true rfl) rfl ?_
    rintro _ _ _ _ ⟨⟨rfl, h2⟩ | ⟨rfl, h2⟩, rfl, rfl, rfl⟩
    · refine aw_if_ne (tgt := 23) dX6_wind_17 (by decide) (by omega) (fun _ => ?_) (fun c_17 => absurd c_17 (by decide))
      refine aw_aload_n dX6_wind_23 rfl rfl ?_
      refine rr_getA dX6_wind_24 flX6_27 rfl (by decide) ?_
      refine aw_iload_n dX6_wind_27 rfl rfl ?_
      refine rr_iald (n := 24) dX6_wind_28 rfl rfl rfl (by omega) (by omega) (fun _ => rfl) ?_
      refine aw_istore_n dX6_wind_29 rfl (by decide) ?_
      refine aw_aload_n dX6_wind_30 rfl rfl ?_
      refine rr_getA dX6_wind_31 flX6_27 rfl (by decide) ?_
      refine aw_iload_n dX6_wind_34 rfl rfl ?_
      refine aw_iload_n dX6_wind_35 rfl rfl ?_
      refine rr_iast (n := 24) dX6_wind_36 rfl rfl rfl (by omega) (by omega) ?_
      refine aw_iload_n dX6_wind_37 rfl rfl ?_
      refine aw_iret dX6_wind_38 rfl (Nat.zero_le _) (Nat.zero_le _) ?_
      have e : opWind S h v = (S 7 h, u2 S 7 h v) := by
        unfold opWind
        repeat (first | rw [if_pos (by omega)] | rw [if_neg (by omega)])
      rw [e]
      exact ⟨rfl, rfl, rfl, rfl⟩
    · refine aw_if_ne (tgt := 23) dX6_wind_17 (by decide) (by omega) (fun c_17 => absurd c_17 (by decide)) (fun _ => ?_)
      refine aw_bipush dX6_wind_20 (by decide) ?_
      refine aw_iret dX6_wind_22 rfl (Nat.zero_le _) (Nat.zero_le _) ?_
      have e : opWind S h v = (-9, S) := by
        unfold opWind
        repeat (first | rw [if_pos (by omega)] | rw [if_neg (by omega)])
      rw [e]
      exact ⟨rfl, rfl, rfl, rfl⟩
  · refine aw_if_eq (tgt := 20) dX6_wind_7 (by decide) (by omega) (fun _ => ?_) (fun c_7 => absurd c_7 (by decide))
    refine aw_bipush dX6_wind_20 (by decide) ?_
    refine aw_iret dX6_wind_22 rfl (Nat.zero_le _) (Nat.zero_le _) ?_
    have e : opWind S h v = (-9, S) := by
      unfold opWind
      repeat (first | rw [if_pos (by omega)] | rw [if_neg (by omega)])
    rw [e]
    exact ⟨rfl, rfl, rfl, rfl⟩
set_option maxRecDepth 100000 in
set_option maxHeartbeats 4000000 in
theorem c_X6_rule {w v : Int} (hw : Rg w) (hv : Rg v) : CT l D cA A ad yX6_rule cX6_rule 4 (some .int) rm_X6_rule [.inr (some (50, 0)), .inl w, .inl v] lvR (VR S) sz (PR (some (.inl (opRule S w v).1)) ((opRule S w v).2) sz) := by
  refine CT.of2 [some (.inr (some (50, 0))), some (.inl w), some (.inl v), none] (by decide) (Nat.le_of_ble_eq_true rfl) rfl ?_
  refine aw_iload_n dX6_rule_0 rfl rfl ?_
  refine aw_iconst dX6_rule_1 ?_
  refine aw_iconst dX6_rule_2 ?_
  refine aw_callS (c_X6_isIn (by omega) (by omega) (by omega)) mv_X6_isIn mlX6_108 dX6_rule_3 (by decide) rfl (Nat.le_of_ble_eq_true rfl) rfl ?_
  rintro _ _ _ _ ⟨⟨rfl, h1⟩ | ⟨rfl, h1⟩, rfl, rfl, rfl⟩
  · refine aw_if_eq (tgt := 27) dX6_rule_6 (by decide) (by omega) (fun c_6 => absurd c_6 (by decide)) (fun _ => ?_)
    refine aw_iload_n dX6_rule_9 rfl rfl ?_
    refine aw_iconst dX6_rule_10 ?_
    refine aw_iload_n dX6_rule_11 rfl rfl ?_
    refine aw_if_ne (tgt := 20) dX6_rule_12 (by decide) (by omega) (fun c_12 => ?_) (fun c_12 => ?_)
    · refine aw_iconst dX6_rule_20 ?_
      refine aw_callS (c_X6_isIn (by omega) (by omega) (by omega)) mv_X6_isIn mlX6_108 dX6_rule_21 (by decide) rfl (Nat.le_of_ble_eq_true rfl) rfl ?_
      rintro _ _ _ _ ⟨⟨rfl, h2⟩ | ⟨rfl, h2⟩, rfl, rfl, rfl⟩
      · refine aw_if_ne (tgt := 29) dX6_rule_24 (by decide) (by omega) (fun _ => ?_) (fun c_24 => absurd c_24 (by decide))
        refine aw_iload_n dX6_rule_29 rfl rfl ?_
        refine aw_if_ne (tgt := 40) dX6_rule_30 (by decide) (by omega) (fun c_30 => ?_) (fun c_30 => ?_)
        · refine aw_aload_n dX6_rule_40 rfl rfl ?_
          refine rr_getS dX6_rule_41 flX6_115 rfl (by decide) (fun _ => rfl) ?_
          refine aw_istore_n dX6_rule_44 rfl (by decide) ?_
          refine aw_aload_n dX6_rule_45 rfl rfl ?_
          refine aw_iload_n dX6_rule_46 rfl rfl ?_
          refine aw_if_ne (tgt := 54) dX6_rule_47 (by decide) (by omega) (fun c_47 => ?_) (fun c_47 => ?_)
          · refine aw_aload_n dX6_rule_54 rfl rfl ?_
            refine rr_getS dX6_rule_55 flX6_7 rfl (by decide) (fun _ => rfl) ?_
            refine rr_put dX6_rule_58 flX6_7 rfl (by decide) rfl trivial ?_
            refine aw_aload_n dX6_rule_61 rfl rfl ?_
            refine aw_iload_n dX6_rule_62 rfl rfl ?_
            refine aw_iconst dX6_rule_63 ?_
            refine aw_icmp_ne (tgt := 71) dX6_rule_64 (by decide) (by omega) (by omega) (fun c_64 => ?_) (fun c_64 => ?_)
            · refine aw_aload_n dX6_rule_71 rfl rfl ?_
              refine rr_getS (S0 := S) dX6_rule_72 flX6_115 rfl (by decide) (fun _ => rfl) ?_
              refine rr_put dX6_rule_75 flX6_115 rfl (by decide) rfl trivial ?_
              refine aw_iload_n dX6_rule_78 rfl rfl ?_
              refine aw_iret dX6_rule_79 rfl (Nat.zero_le _) (Nat.zero_le _) ?_
              rcases (show w = 0 ∨ w = 1 by omega) with rfl | rfl
              · first
                | exact absurd rfl c_12
                | exact absurd rfl c_30
                | exact absurd rfl c_47
                | exact absurd c_64 (by decide)
                | (have e : opRule S 0 v = (S 1 0, u2 S 1 0 v) := by
                     unfold opRule
                     rw [if_pos (by omega)]
                   rw [e]
                   refine ⟨rfl, rfl, ?_, rfl⟩
                   congr 1
                   funext k x
                   simp only [u2]
                   by_cases hk : k = 2 <;> by_cases hx : x = 0 <;> simp [hk, hx])
              · first
                | exact absurd c_12 (by decide)
                | exact absurd c_30 (by decide)
                | exact absurd c_47 (by decide)
                | exact absurd rfl c_64
                | (have e : opRule S 1 v = (S 2 0, u2 S 2 0 v) := by
                     unfold opRule
                     rw [if_neg (by omega), if_pos (by omega)]
                   rw [e]
                   refine ⟨rfl, rfl, ?_, rfl⟩
                   congr 1
                   funext k x
                   simp only [u2]
                   by_cases hk : k = 1 <;> by_cases hx : x = 0 <;> simp [hk, hx])
            · refine aw_iload_n dX6_rule_67 rfl rfl ?_
              refine aw_goto (tgt := 75) dX6_rule_68 (by decide) ?_
              refine rr_put dX6_rule_75 flX6_115 rfl (by decide) rfl trivial ?_
              refine aw_iload_n dX6_rule_78 rfl rfl ?_
              refine aw_iret dX6_rule_79 rfl (Nat.zero_le _) (Nat.zero_le _) ?_
              rcases (show w = 0 ∨ w = 1 by omega) with rfl | rfl
              · first
                | exact absurd rfl c_12
                | exact absurd rfl c_30
                | exact absurd rfl c_47
                | exact absurd c_64 (by decide)
                | (have e : opRule S 0 v = (S 1 0, u2 S 1 0 v) := by
                     unfold opRule
                     rw [if_pos (by omega)]
                   rw [e]
                   refine ⟨rfl, rfl, ?_, rfl⟩
                   congr 1
                   funext k x
                   simp only [u2]
                   by_cases hk : k = 2 <;> by_cases hx : x = 0 <;> simp [hk, hx])
              · first
                | exact absurd c_12 (by decide)
                | exact absurd c_30 (by decide)
                | exact absurd c_47 (by decide)
                | exact absurd rfl c_64
                | (have e : opRule S 1 v = (S 2 0, u2 S 2 0 v) := by
                     unfold opRule
                     rw [if_neg (by omega), if_pos (by omega)]
                   rw [e]
                   refine ⟨rfl, rfl, ?_, rfl⟩
                   congr 1
                   funext k x
                   simp only [u2]
                   by_cases hk : k = 1 <;> by_cases hx : x = 0 <;> simp [hk, hx])
          · refine aw_iload_n dX6_rule_50 rfl rfl ?_
            refine aw_goto (tgt := 58) dX6_rule_51 (by decide) ?_
            refine rr_put dX6_rule_58 flX6_7 rfl (by decide) rfl trivial ?_
            refine aw_aload_n dX6_rule_61 rfl rfl ?_
            refine aw_iload_n dX6_rule_62 rfl rfl ?_
            refine aw_iconst dX6_rule_63 ?_
            refine aw_icmp_ne (tgt := 71) dX6_rule_64 (by decide) (by omega) (by omega) (fun c_64 => ?_) (fun c_64 => ?_)
            · refine aw_aload_n dX6_rule_71 rfl rfl ?_
              refine rr_getS (S0 := S) dX6_rule_72 flX6_115 rfl (by decide) (fun _ => rfl) ?_
              refine rr_put dX6_rule_75 flX6_115 rfl (by decide) rfl trivial ?_
              refine aw_iload_n dX6_rule_78 rfl rfl ?_
              refine aw_iret dX6_rule_79 rfl (Nat.zero_le _) (Nat.zero_le _) ?_
              rcases (show w = 0 ∨ w = 1 by omega) with rfl | rfl
              · first
                | exact absurd rfl c_12
                | exact absurd rfl c_30
                | exact absurd rfl c_47
                | exact absurd c_64 (by decide)
                | (have e : opRule S 0 v = (S 1 0, u2 S 1 0 v) := by
                     unfold opRule
                     rw [if_pos (by omega)]
                   rw [e]
                   refine ⟨rfl, rfl, ?_, rfl⟩
                   congr 1
                   funext k x
                   simp only [u2]
                   by_cases hk : k = 2 <;> by_cases hx : x = 0 <;> simp [hk, hx])
              · first
                | exact absurd c_12 (by decide)
                | exact absurd c_30 (by decide)
                | exact absurd c_47 (by decide)
                | exact absurd rfl c_64
                | (have e : opRule S 1 v = (S 2 0, u2 S 2 0 v) := by
                     unfold opRule
                     rw [if_neg (by omega), if_pos (by omega)]
                   rw [e]
                   refine ⟨rfl, rfl, ?_, rfl⟩
                   congr 1
                   funext k x
                   simp only [u2]
                   by_cases hk : k = 1 <;> by_cases hx : x = 0 <;> simp [hk, hx])
            · refine aw_iload_n dX6_rule_67 rfl rfl ?_
              refine aw_goto (tgt := 75) dX6_rule_68 (by decide) ?_
              refine rr_put dX6_rule_75 flX6_115 rfl (by decide) rfl trivial ?_
              refine aw_iload_n dX6_rule_78 rfl rfl ?_
              refine aw_iret dX6_rule_79 rfl (Nat.zero_le _) (Nat.zero_le _) ?_
              rcases (show w = 0 ∨ w = 1 by omega) with rfl | rfl
              · first
                | exact absurd rfl c_12
                | exact absurd rfl c_30
                | exact absurd rfl c_47
                | exact absurd c_64 (by decide)
                | (have e : opRule S 0 v = (S 1 0, u2 S 1 0 v) := by
                     unfold opRule
                     rw [if_pos (by omega)]
                   rw [e]
                   refine ⟨rfl, rfl, ?_, rfl⟩
                   congr 1
                   funext k x
                   simp only [u2]
                   by_cases hk : k = 2 <;> by_cases hx : x = 0 <;> simp [hk, hx])
              · first
                | exact absurd c_12 (by decide)
                | exact absurd c_30 (by decide)
                | exact absurd c_47 (by decide)
                | exact absurd rfl c_64
                | (have e : opRule S 1 v = (S 2 0, u2 S 2 0 v) := by
                     unfold opRule
                     rw [if_neg (by omega), if_pos (by omega)]
                   rw [e]
                   refine ⟨rfl, rfl, ?_, rfl⟩
                   congr 1
                   funext k x
                   simp only [u2]
                   by_cases hk : k = 1 <;> by_cases hx : x = 0 <;> simp [hk, hx])
        · refine aw_aload_n dX6_rule_33 rfl rfl ?_
          refine rr_getS dX6_rule_34 flX6_7 rfl (by decide) (fun _ => rfl) ?_
          refine aw_goto (tgt := 44) dX6_rule_37 (by decide) ?_
          refine aw_istore_n dX6_rule_44 rfl (by decide) ?_
          refine aw_aload_n dX6_rule_45 rfl rfl ?_
          refine aw_iload_n dX6_rule_46 rfl rfl ?_
          refine aw_if_ne (tgt := 54) dX6_rule_47 (by decide) (by omega) (fun c_47 => ?_) (fun c_47 => ?_)
          · refine aw_aload_n dX6_rule_54 rfl rfl ?_
            refine rr_getS dX6_rule_55 flX6_7 rfl (by decide) (fun _ => rfl) ?_
            refine rr_put dX6_rule_58 flX6_7 rfl (by decide) rfl trivial ?_
            refine aw_aload_n dX6_rule_61 rfl rfl ?_
            refine aw_iload_n dX6_rule_62 rfl rfl ?_
            refine aw_iconst dX6_rule_63 ?_
            refine aw_icmp_ne (tgt := 71) dX6_rule_64 (by decide) (by omega) (by omega) (fun c_64 => ?_) (fun c_64 => ?_)
            · refine aw_aload_n dX6_rule_71 rfl rfl ?_
              refine rr_getS (S0 := S) dX6_rule_72 flX6_115 rfl (by decide) (fun _ => rfl) ?_
              refine rr_put dX6_rule_75 flX6_115 rfl (by decide) rfl trivial ?_
              refine aw_iload_n dX6_rule_78 rfl rfl ?_
              refine aw_iret dX6_rule_79 rfl (Nat.zero_le _) (Nat.zero_le _) ?_
              rcases (show w = 0 ∨ w = 1 by omega) with rfl | rfl
              · first
                | exact absurd rfl c_12
                | exact absurd rfl c_30
                | exact absurd rfl c_47
                | exact absurd c_64 (by decide)
                | (have e : opRule S 0 v = (S 1 0, u2 S 1 0 v) := by
                     unfold opRule
                     rw [if_pos (by omega)]
                   rw [e]
                   refine ⟨rfl, rfl, ?_, rfl⟩
                   congr 1
                   funext k x
                   simp only [u2]
                   by_cases hk : k = 2 <;> by_cases hx : x = 0 <;> simp [hk, hx])
              · first
                | exact absurd c_12 (by decide)
                | exact absurd c_30 (by decide)
                | exact absurd c_47 (by decide)
                | exact absurd rfl c_64
                | (have e : opRule S 1 v = (S 2 0, u2 S 2 0 v) := by
                     unfold opRule
                     rw [if_neg (by omega), if_pos (by omega)]
                   rw [e]
                   refine ⟨rfl, rfl, ?_, rfl⟩
                   congr 1
                   funext k x
                   simp only [u2]
                   by_cases hk : k = 1 <;> by_cases hx : x = 0 <;> simp [hk, hx])
            · refine aw_iload_n dX6_rule_67 rfl rfl ?_
              refine aw_goto (tgt := 75) dX6_rule_68 (by decide) ?_
              refine rr_put dX6_rule_75 flX6_115 rfl (by decide) rfl trivial ?_
              refine aw_iload_n dX6_rule_78 rfl rfl ?_
              refine aw_iret dX6_rule_79 rfl (Nat.zero_le _) (Nat.zero_le _) ?_
              rcases (show w = 0 ∨ w = 1 by omega) with rfl | rfl
              · first
                | exact absurd rfl c_12
                | exact absurd rfl c_30
                | exact absurd rfl c_47
                | exact absurd c_64 (by decide)
                | (have e : opRule S 0 v = (S 1 0, u2 S 1 0 v) := by
                     unfold opRule
                     rw [if_pos (by omega)]
                   rw [e]
                   refine ⟨rfl, rfl, ?_, rfl⟩
                   congr 1
                   funext k x
                   simp only [u2]
                   by_cases hk : k = 2 <;> by_cases hx : x = 0 <;> simp [hk, hx])
              · first
                | exact absurd c_12 (by decide)
                | exact absurd c_30 (by decide)
                | exact absurd c_47 (by decide)
                | exact absurd rfl c_64
                | (have e : opRule S 1 v = (S 2 0, u2 S 2 0 v) := by
                     unfold opRule
                     rw [if_neg (by omega), if_pos (by omega)]
                   rw [e]
                   refine ⟨rfl, rfl, ?_, rfl⟩
                   congr 1
                   funext k x
                   simp only [u2]
                   by_cases hk : k = 1 <;> by_cases hx : x = 0 <;> simp [hk, hx])
          · refine aw_iload_n dX6_rule_50 rfl rfl ?_
            refine aw_goto (tgt := 58) dX6_rule_51 (by decide) ?_
            refine rr_put dX6_rule_58 flX6_7 rfl (by decide) rfl trivial ?_
            refine aw_aload_n dX6_rule_61 rfl rfl ?_
            refine aw_iload_n dX6_rule_62 rfl rfl ?_
            refine aw_iconst dX6_rule_63 ?_
            refine aw_icmp_ne (tgt := 71) dX6_rule_64 (by decide) (by omega) (by omega) (fun c_64 => ?_) (fun c_64 => ?_)
            · refine aw_aload_n dX6_rule_71 rfl rfl ?_
              refine rr_getS (S0 := S) dX6_rule_72 flX6_115 rfl (by decide) (fun _ => rfl) ?_
              refine rr_put dX6_rule_75 flX6_115 rfl (by decide) rfl trivial ?_
              refine aw_iload_n dX6_rule_78 rfl rfl ?_
              refine aw_iret dX6_rule_79 rfl (Nat.zero_le _) (Nat.zero_le _) ?_
              rcases (show w = 0 ∨ w = 1 by omega) with rfl | rfl
              · first
                | exact absurd rfl c_12
                | exact absurd rfl c_30
                | exact absurd rfl c_47
                | exact absurd c_64 (by decide)
                | (have e : opRule S 0 v = (S 1 0, u2 S 1 0 v) := by
                     unfold opRule
                     rw [if_pos (by omega)]
                   rw [e]
                   refine ⟨rfl, rfl, ?_, rfl⟩
                   congr 1
                   funext k x
                   simp only [u2]
                   by_cases hk : k = 2 <;> by_cases hx : x = 0 <;> simp [hk, hx])
              · first
                | exact absurd c_12 (by decide)
                | exact absurd c_30 (by decide)
                | exact absurd c_47 (by decide)
                | exact absurd rfl c_64
                | (have e : opRule S 1 v = (S 2 0, u2 S 2 0 v) := by
                     unfold opRule
                     rw [if_neg (by omega), if_pos (by omega)]
                   rw [e]
                   refine ⟨rfl, rfl, ?_, rfl⟩
                   congr 1
                   funext k x
                   simp only [u2]
                   by_cases hk : k = 1 <;> by_cases hx : x = 0 <;> simp [hk, hx])
            · refine aw_iload_n dX6_rule_67 rfl rfl ?_
              refine aw_goto (tgt := 75) dX6_rule_68 (by decide) ?_
              refine rr_put dX6_rule_75 flX6_115 rfl (by decide) rfl trivial ?_
              refine aw_iload_n dX6_rule_78 rfl rfl ?_
              refine aw_iret dX6_rule_79 rfl (Nat.zero_le _) (Nat.zero_le _) ?_
              rcases (show w = 0 ∨ w = 1 by omega) with rfl | rfl
              · first
                | exact absurd rfl c_12
                | exact absurd rfl c_30
                | exact absurd rfl c_47
                | exact absurd c_64 (by decide)
                | (have e : opRule S 0 v = (S 1 0, u2 S 1 0 v) := by
                     unfold opRule
                     rw [if_pos (by omega)]
                   rw [e]
                   refine ⟨rfl, rfl, ?_, rfl⟩
                   congr 1
                   funext k x
                   simp only [u2]
                   by_cases hk : k = 2 <;> by_cases hx : x = 0 <;> simp [hk, hx])
              · first
                | exact absurd c_12 (by decide)
                | exact absurd c_30 (by decide)
                | exact absurd c_47 (by decide)
                | exact absurd rfl c_64
                | (have e : opRule S 1 v = (S 2 0, u2 S 2 0 v) := by
                     unfold opRule
                     rw [if_neg (by omega), if_pos (by omega)]
                   rw [e]
                   refine ⟨rfl, rfl, ?_, rfl⟩
                   congr 1
                   funext k x
                   simp only [u2]
                   by_cases hk : k = 1 <;> by_cases hx : x = 0 <;> simp [hk, hx])
      · refine aw_if_ne (tgt := 29) dX6_rule_24 (by decide) (by omega) (fun c_24 => absurd c_24 (by decide)) (fun _ => ?_)
        refine aw_iconst dX6_rule_27 ?_
        refine aw_iret dX6_rule_28 rfl (Nat.zero_le _) (Nat.zero_le _) ?_
        have e : opRule S w v = (-1, S) := by
          unfold opRule
          repeat (first | rw [if_pos (by omega)] | rw [if_neg (by omega)])
        rw [e]
        exact ⟨rfl, rfl, rfl, rfl⟩
    · refine aw_bipush dX6_rule_15 (by decide) ?_
      refine aw_goto (tgt := 21) dX6_rule_17 (by decide) ?_
      refine aw_callS (c_X6_isIn (by omega) (by omega) (by omega)) mv_X6_isIn mlX6_108 dX6_rule_21 (by decide) rfl (Nat.le_of_ble_eq_true rfl) rfl ?_
      rintro _ _ _ _ ⟨⟨rfl, h2⟩ | ⟨rfl, h2⟩, rfl, rfl, rfl⟩
      · refine aw_if_ne (tgt := 29) dX6_rule_24 (by decide) (by omega) (fun _ => ?_) (fun c_24 => absurd c_24 (by decide))
        refine aw_iload_n dX6_rule_29 rfl rfl ?_
        refine aw_if_ne (tgt := 40) dX6_rule_30 (by decide) (by omega) (fun c_30 => ?_) (fun c_30 => ?_)
        · refine aw_aload_n dX6_rule_40 rfl rfl ?_
          refine rr_getS dX6_rule_41 flX6_115 rfl (by decide) (fun _ => rfl) ?_
          refine aw_istore_n dX6_rule_44 rfl (by decide) ?_
          refine aw_aload_n dX6_rule_45 rfl rfl ?_
          refine aw_iload_n dX6_rule_46 rfl rfl ?_
          refine aw_if_ne (tgt := 54) dX6_rule_47 (by decide) (by omega) (fun c_47 => ?_) (fun c_47 => ?_)
          · refine aw_aload_n dX6_rule_54 rfl rfl ?_
            refine rr_getS dX6_rule_55 flX6_7 rfl (by decide) (fun _ => rfl) ?_
            refine rr_put dX6_rule_58 flX6_7 rfl (by decide) rfl trivial ?_
            refine aw_aload_n dX6_rule_61 rfl rfl ?_
            refine aw_iload_n dX6_rule_62 rfl rfl ?_
            refine aw_iconst dX6_rule_63 ?_
            refine aw_icmp_ne (tgt := 71) dX6_rule_64 (by decide) (by omega) (by omega) (fun c_64 => ?_) (fun c_64 => ?_)
            · refine aw_aload_n dX6_rule_71 rfl rfl ?_
              refine rr_getS (S0 := S) dX6_rule_72 flX6_115 rfl (by decide) (fun _ => rfl) ?_
              refine rr_put dX6_rule_75 flX6_115 rfl (by decide) rfl trivial ?_
              refine aw_iload_n dX6_rule_78 rfl rfl ?_
              refine aw_iret dX6_rule_79 rfl (Nat.zero_le _) (Nat.zero_le _) ?_
              rcases (show w = 0 ∨ w = 1 by omega) with rfl | rfl
              · first
                | exact absurd rfl c_12
                | exact absurd rfl c_30
                | exact absurd rfl c_47
                | exact absurd c_64 (by decide)
                | (have e : opRule S 0 v = (S 1 0, u2 S 1 0 v) := by
                     unfold opRule
                     rw [if_pos (by omega)]
                   rw [e]
                   refine ⟨rfl, rfl, ?_, rfl⟩
                   congr 1
                   funext k x
                   simp only [u2]
                   by_cases hk : k = 2 <;> by_cases hx : x = 0 <;> simp [hk, hx])
              · first
                | exact absurd c_12 (by decide)
                | exact absurd c_30 (by decide)
                | exact absurd c_47 (by decide)
                | exact absurd rfl c_64
                | (have e : opRule S 1 v = (S 2 0, u2 S 2 0 v) := by
                     unfold opRule
                     rw [if_neg (by omega), if_pos (by omega)]
                   rw [e]
                   refine ⟨rfl, rfl, ?_, rfl⟩
                   congr 1
                   funext k x
                   simp only [u2]
                   by_cases hk : k = 1 <;> by_cases hx : x = 0 <;> simp [hk, hx])
            · refine aw_iload_n dX6_rule_67 rfl rfl ?_
              refine aw_goto (tgt := 75) dX6_rule_68 (by decide) ?_
              refine rr_put dX6_rule_75 flX6_115 rfl (by decide) rfl trivial ?_
              refine aw_iload_n dX6_rule_78 rfl rfl ?_
              refine aw_iret dX6_rule_79 rfl (Nat.zero_le _) (Nat.zero_le _) ?_
              rcases (show w = 0 ∨ w = 1 by omega) with rfl | rfl
              · first
                | exact absurd rfl c_12
                | exact absurd rfl c_30
                | exact absurd rfl c_47
                | exact absurd c_64 (by decide)
                | (have e : opRule S 0 v = (S 1 0, u2 S 1 0 v) := by
                     unfold opRule
                     rw [if_pos (by omega)]
                   rw [e]
                   refine ⟨rfl, rfl, ?_, rfl⟩
                   congr 1
                   funext k x
                   simp only [u2]
                   by_cases hk : k = 2 <;> by_cases hx : x = 0 <;> simp [hk, hx])
              · first
                | exact absurd c_12 (by decide)
                | exact absurd c_30 (by decide)
                | exact absurd c_47 (by decide)
                | exact absurd rfl c_64
                | (have e : opRule S 1 v = (S 2 0, u2 S 2 0 v) := by
                     unfold opRule
                     rw [if_neg (by omega), if_pos (by omega)]
                   rw [e]
                   refine ⟨rfl, rfl, ?_, rfl⟩
                   congr 1
                   funext k x
                   simp only [u2]
                   by_cases hk : k = 1 <;> by_cases hx : x = 0 <;> simp [hk, hx])
          · refine aw_iload_n dX6_rule_50 rfl rfl ?_
            refine aw_goto (tgt := 58) dX6_rule_51 (by decide) ?_
            refine rr_put dX6_rule_58 flX6_7 rfl (by decide) rfl trivial ?_
            refine aw_aload_n dX6_rule_61 rfl rfl ?_
            refine aw_iload_n dX6_rule_62 rfl rfl ?_
            refine aw_iconst dX6_rule_63 ?_
            refine aw_icmp_ne (tgt := 71) dX6_rule_64 (by decide) (by omega) (by omega) (fun c_64 => ?_) (fun c_64 => ?_)
            · refine aw_aload_n dX6_rule_71 rfl rfl ?_
              refine rr_getS (S0 := S) dX6_rule_72 flX6_115 rfl (by decide) (fun _ => rfl) ?_
              refine rr_put dX6_rule_75 flX6_115 rfl (by decide) rfl trivial ?_
              refine aw_iload_n dX6_rule_78 rfl rfl ?_
              refine aw_iret dX6_rule_79 rfl (Nat.zero_le _) (Nat.zero_le _) ?_
              rcases (show w = 0 ∨ w = 1 by omega) with rfl | rfl
              · first
                | exact absurd rfl c_12
                | exact absurd rfl c_30
                | exact absurd rfl c_47
                | exact absurd c_64 (by decide)
                | (have e : opRule S 0 v = (S 1 0, u2 S 1 0 v) := by
                     unfold opRule
                     rw [if_pos (by omega)]
                   rw [e]
                   refine ⟨rfl, rfl, ?_, rfl⟩
                   congr 1
                   funext k x
                   simp only [u2]
                   by_cases hk : k = 2 <;> by_cases hx : x = 0 <;> simp [hk, hx])
              · first
                | exact absurd c_12 (by decide)
                | exact absurd c_30 (by decide)
                | exact absurd c_47 (by decide)
                | exact absurd rfl c_64
                | (have e : opRule S 1 v = (S 2 0, u2 S 2 0 v) := by
                     unfold opRule
                     rw [if_neg (by omega), if_pos (by omega)]
                   rw [e]
                   refine ⟨rfl, rfl, ?_, rfl⟩
                   congr 1
                   funext k x
                   simp only [u2]
                   by_cases hk : k = 1 <;> by_cases hx : x = 0 <;> simp [hk, hx])
            · refine aw_iload_n dX6_rule_67 rfl rfl ?_
              refine aw_goto (tgt := 75) dX6_rule_68 (by decide) ?_
              refine rr_put dX6_rule_75 flX6_115 rfl (by decide) rfl trivial ?_
              refine aw_iload_n dX6_rule_78 rfl rfl ?_
              refine aw_iret dX6_rule_79 rfl (Nat.zero_le _) (Nat.zero_le _) ?_
              rcases (show w = 0 ∨ w = 1 by omega) with rfl | rfl
              · first
                | exact absurd rfl c_12
                | exact absurd rfl c_30
                | exact absurd rfl c_47
                | exact absurd c_64 (by decide)
                | (have e : opRule S 0 v = (S 1 0, u2 S 1 0 v) := by
                     unfold opRule
                     rw [if_pos (by omega)]
                   rw [e]
                   refine ⟨rfl, rfl, ?_, rfl⟩
                   congr 1
                   funext k x
                   simp only [u2]
                   by_cases hk : k = 2 <;> by_cases hx : x = 0 <;> simp [hk, hx])
              · first
                | exact absurd c_12 (by decide)
                | exact absurd c_30 (by decide)
                | exact absurd c_47 (by decide)
                | exact absurd rfl c_64
                | (have e : opRule S 1 v = (S 2 0, u2 S 2 0 v) := by
                     unfold opRule
                     rw [if_neg (by omega), if_pos (by omega)]
                   rw [e]
                   refine ⟨rfl, rfl, ?_, rfl⟩
                   congr 1
                   funext k x
                   simp only [u2]
                   by_cases hk : k = 1 <;> by_cases hx : x = 0 <;> simp [hk, hx])
        · refine aw_aload_n dX6_rule_33 rfl rfl ?_
          refine rr_getS dX6_rule_34 flX6_7 rfl (by decide) (fun _ => rfl) ?_
          refine aw_goto (tgt := 44) dX6_rule_37 (by decide) ?_
          refine aw_istore_n dX6_rule_44 rfl (by decide) ?_
          refine aw_aload_n dX6_rule_45 rfl rfl ?_
          refine aw_iload_n dX6_rule_46 rfl rfl ?_
          refine aw_if_ne (tgt := 54) dX6_rule_47 (by decide) (by omega) (fun c_47 => ?_) (fun c_47 => ?_)
          · refine aw_aload_n dX6_rule_54 rfl rfl ?_
            refine rr_getS dX6_rule_55 flX6_7 rfl (by decide) (fun _ => rfl) ?_
            refine rr_put dX6_rule_58 flX6_7 rfl (by decide) rfl trivial ?_
            refine aw_aload_n dX6_rule_61 rfl rfl ?_
            refine aw_iload_n dX6_rule_62 rfl rfl ?_
            refine aw_iconst dX6_rule_63 ?_
            refine aw_icmp_ne (tgt := 71) dX6_rule_64 (by decide) (by omega) (by omega) (fun c_64 => ?_) (fun c_64 => ?_)
            · refine aw_aload_n dX6_rule_71 rfl rfl ?_
              refine rr_getS (S0 := S) dX6_rule_72 flX6_115 rfl (by decide) (fun _ => rfl) ?_
              refine rr_put dX6_rule_75 flX6_115 rfl (by decide) rfl trivial ?_
              refine aw_iload_n dX6_rule_78 rfl rfl ?_
              refine aw_iret dX6_rule_79 rfl (Nat.zero_le _) (Nat.zero_le _) ?_
              rcases (show w = 0 ∨ w = 1 by omega) with rfl | rfl
              · first
                | exact absurd rfl c_12
                | exact absurd rfl c_30
                | exact absurd rfl c_47
                | exact absurd c_64 (by decide)
                | (have e : opRule S 0 v = (S 1 0, u2 S 1 0 v) := by
                     unfold opRule
                     rw [if_pos (by omega)]
                   rw [e]
                   refine ⟨rfl, rfl, ?_, rfl⟩
                   congr 1
                   funext k x
                   simp only [u2]
                   by_cases hk : k = 2 <;> by_cases hx : x = 0 <;> simp [hk, hx])
              · first
                | exact absurd c_12 (by decide)
                | exact absurd c_30 (by decide)
                | exact absurd c_47 (by decide)
                | exact absurd rfl c_64
                | (have e : opRule S 1 v = (S 2 0, u2 S 2 0 v) := by
                     unfold opRule
                     rw [if_neg (by omega), if_pos (by omega)]
                   rw [e]
                   refine ⟨rfl, rfl, ?_, rfl⟩
                   congr 1
                   funext k x
                   simp only [u2]
                   by_cases hk : k = 1 <;> by_cases hx : x = 0 <;> simp [hk, hx])
            · refine aw_iload_n dX6_rule_67 rfl rfl ?_
              refine aw_goto (tgt := 75) dX6_rule_68 (by decide) ?_
              refine rr_put dX6_rule_75 flX6_115 rfl (by decide) rfl trivial ?_
              refine aw_iload_n dX6_rule_78 rfl rfl ?_
              refine aw_iret dX6_rule_79 rfl (Nat.zero_le _) (Nat.zero_le _) ?_
              rcases (show w = 0 ∨ w = 1 by omega) with rfl | rfl
              · first
                | exact absurd rfl c_12
                | exact absurd rfl c_30
                | exact absurd rfl c_47
                | exact absurd c_64 (by decide)
                | (have e : opRule S 0 v = (S 1 0, u2 S 1 0 v) := by
                     unfold opRule
                     rw [if_pos (by omega)]
                   rw [e]
                   refine ⟨rfl, rfl, ?_, rfl⟩
                   congr 1
                   funext k x
                   simp only [u2]
                   by_cases hk : k = 2 <;> by_cases hx : x = 0 <;> simp [hk, hx])
              · first
                | exact absurd c_12 (by decide)
                | exact absurd c_30 (by decide)
                | exact absurd c_47 (by decide)
                | exact absurd rfl c_64
                | (have e : opRule S 1 v = (S 2 0, u2 S 2 0 v) := by
                     unfold opRule
                     rw [if_neg (by omega), if_pos (by omega)]
                   rw [e]
                   refine ⟨rfl, rfl, ?_, rfl⟩
                   congr 1
                   funext k x
                   simp only [u2]
                   by_cases hk : k = 1 <;> by_cases hx : x = 0 <;> simp [hk, hx])
          · refine aw_iload_n dX6_rule_50 rfl rfl ?_
            refine aw_goto (tgt := 58) dX6_rule_51 (by decide) ?_
            refine rr_put dX6_rule_58 flX6_7 rfl (by decide) rfl trivial ?_
            refine aw_aload_n dX6_rule_61 rfl rfl ?_
            refine aw_iload_n dX6_rule_62 rfl rfl ?_
            refine aw_iconst dX6_rule_63 ?_
            refine aw_icmp_ne (tgt := 71) dX6_rule_64 (by decide) (by omega) (by omega) (fun c_64 => ?_) (fun c_64 => ?_)
            · refine aw_aload_n dX6_rule_71 rfl rfl ?_
              refine rr_getS (S0 := S) dX6_rule_72 flX6_115 rfl (by decide) (fun _ => rfl) ?_
              refine rr_put dX6_rule_75 flX6_115 rfl (by decide) rfl trivial ?_
              refine aw_iload_n dX6_rule_78 rfl rfl ?_
              refine aw_iret dX6_rule_79 rfl (Nat.zero_le _) (Nat.zero_le _) ?_
              rcases (show w = 0 ∨ w = 1 by omega) with rfl | rfl
              · first
                | exact absurd rfl c_12
                | exact absurd rfl c_30
                | exact absurd rfl c_47
                | exact absurd c_64 (by decide)
                | (have e : opRule S 0 v = (S 1 0, u2 S 1 0 v) := by
                     unfold opRule
                     rw [if_pos (by omega)]
                   rw [e]
                   refine ⟨rfl, rfl, ?_, rfl⟩
                   congr 1
                   funext k x
                   simp only [u2]
                   by_cases hk : k = 2 <;> by_cases hx : x = 0 <;> simp [hk, hx])
              · first
                | exact absurd c_12 (by decide)
                | exact absurd c_30 (by decide)
                | exact absurd c_47 (by decide)
                | exact absurd rfl c_64
                | (have e : opRule S 1 v = (S 2 0, u2 S 2 0 v) := by
                     unfold opRule
                     rw [if_neg (by omega), if_pos (by omega)]
                   rw [e]
                   refine ⟨rfl, rfl, ?_, rfl⟩
                   congr 1
                   funext k x
                   simp only [u2]
                   by_cases hk : k = 1 <;> by_cases hx : x = 0 <;> simp [hk, hx])
            · refine aw_iload_n dX6_rule_67 rfl rfl ?_
              refine aw_goto (tgt := 75) dX6_rule_68 (by decide) ?_
              refine rr_put dX6_rule_75 flX6_115 rfl (by decide) rfl trivial ?_
              refine aw_iload_n dX6_rule_78 rfl rfl ?_
              refine aw_iret dX6_rule_79 rfl (Nat.zero_le _) (Nat.zero_le _) ?_
              rcases (show w = 0 ∨ w = 1 by omega) with rfl | rfl
              · first
                | exact absurd rfl c_12
                | exact absurd rfl c_30
                | exact absurd rfl c_47
                | exact absurd c_64 (by decide)
                | (have e : opRule S 0 v = (S 1 0, u2 S 1 0 v) := by
                     unfold opRule
                     rw [if_pos (by omega)]
                   rw [e]
                   refine ⟨rfl, rfl, ?_, rfl⟩
                   congr 1
                   funext k x
                   simp only [u2]
                   by_cases hk : k = 2 <;> by_cases hx : x = 0 <;> simp [hk, hx])
              · first
                | exact absurd c_12 (by decide)
                | exact absurd c_30 (by decide)
                | exact absurd c_47 (by decide)
                | exact absurd rfl c_64
                | (have e : opRule S 1 v = (S 2 0, u2 S 2 0 v) := by
                     unfold opRule
                     rw [if_neg (by omega), if_pos (by omega)]
                   rw [e]
                   refine ⟨rfl, rfl, ?_, rfl⟩
                   congr 1
                   funext k x
                   simp only [u2]
                   by_cases hk : k = 1 <;> by_cases hx : x = 0 <;> simp [hk, hx])
      · refine aw_if_ne (tgt := 29) dX6_rule_24 (by decide) (by omega) (fun c_24 => absurd c_24 (by decide)) (fun _ => ?_)
        refine aw_iconst dX6_rule_27 ?_
        refine aw_iret dX6_rule_28 rfl (Nat.zero_le _) (Nat.zero_le _) ?_
        have e : opRule S w v = (-1, S) := by
          unfold opRule
          repeat (first | rw [if_pos (by omega)] | rw [if_neg (by omega)])
        rw [e]
        exact ⟨rfl, rfl, rfl, rfl⟩
  · refine aw_if_eq (tgt := 27) dX6_rule_6 (by decide) (by omega) (fun _ => ?_) (fun c_6 => absurd c_6 (by decide))
    refine aw_iconst dX6_rule_27 ?_
    refine aw_iret dX6_rule_28 rfl (Nat.zero_le _) (Nat.zero_le _) ?_
    have e : opRule S w v = (-1, S) := by
      unfold opRule
      repeat (first | rw [if_pos (by omega)] | rw [if_neg (by omega)])
    rw [e]
    exact ⟨rfl, rfl, rfl, rfl⟩
set_option maxRecDepth 100000 in
set_option maxHeartbeats 4000000 in
theorem c_X6_ship {w m g d sl t : Int} (hB : BB S) (hw : Rg w) (hm : Rg m) (hg : g = 0 ∨ g = 1) (hd : Rg d) (hsl : sl = 0 ∨ sl = 1) (ht : Rg t) : CT l D cA A ad yX6_ship cX6_ship 7 (some .int) rm_X6_ship [.inr (some (50, 0)), .inl w, .inl m, .inl g, .inl d, .inl sl, .inl t] lvR (VR S) sz (PR (some (.inl (opShip S w m g d sl t).1)) ((opShip S w m g d sl t).2) sz) := by
  refine CT.of2 [some (.inr (some (50, 0))), some (.inl w), some (.inl m), some (.inl g), some (.inl d), some (.inl sl), some (.inl t)] (by decide) (Nat.le_of_ble_eq_true rfl) rfl ?_
  have hb := hB.m
  simp only [bsm] at hb
  refine aw_iload_n dX6_ship_0 rfl rfl ?_
  refine aw_iconst dX6_ship_1 ?_
  refine aw_iconst dX6_ship_2 ?_
  refine aw_callS (c_X6_isIn (by omega) (by omega) (by omega)) mv_X6_isIn mlX6_108 dX6_ship_3 (by decide) rfl (Nat.le_of_ble_eq_true rfl) rfl ?_
  rintro _ _ _ _ ⟨⟨rfl, h1⟩ | ⟨rfl, h1⟩, rfl, rfl, rfl⟩
  · refine aw_if_eq (tgt := 42) dX6_ship_6 (by decide) (by omega) (fun c_6 => absurd c_6 (by decide)) (fun _ => ?_)
    refine aw_iload_n dX6_ship_9 rfl rfl ?_
    refine aw_iconst dX6_ship_10 ?_
    refine aw_sipush dX6_ship_11 (by decide) ?_
    refine aw_callS (c_X6_isIn (by omega) (by omega) (by omega)) mv_X6_isIn mlX6_108 dX6_ship_14 (by decide) rfl (Nat.le_of_ble_eq_true rfl) rfl ?_
    rintro _ _ _ _ ⟨⟨rfl, h2⟩ | ⟨rfl, h2⟩, rfl, rfl, rfl⟩
    · refine aw_if_eq (tgt := 42) dX6_ship_17 (by decide) (by omega) (fun c_17 => absurd c_17 (by decide)) (fun _ => ?_)
      refine aw_iload dX6_ship_20 rfl ?_
      refine aw_iconst dX6_ship_22 ?_
      refine aw_bipush dX6_ship_23 (by decide) ?_
      refine aw_callS (c_X6_isIn (by omega) (by omega) (by omega)) mv_X6_isIn mlX6_108 dX6_ship_25 (by decide) rfl (Nat.le_of_ble_eq_true rfl) rfl ?_
      rintro _ _ _ _ ⟨⟨rfl, h3⟩ | ⟨rfl, h3⟩, rfl, rfl, rfl⟩
      · refine aw_if_eq (tgt := 42) dX6_ship_28 (by decide) (by omega) (fun c_28 => absurd c_28 (by decide)) (fun _ => ?_)
        refine aw_iload dX6_ship_31 rfl ?_
        refine aw_iconst dX6_ship_33 ?_
        refine aw_ldc (n := 200000) dX6_ship_34 ctX6_118 (by decide) ?_
        refine aw_callS (c_X6_isIn (by omega) (by omega) (by omega)) mv_X6_isIn mlX6_108 dX6_ship_36 (by decide) rfl (Nat.le_of_ble_eq_true rfl) rfl ?_
        rintro _ _ _ _ ⟨⟨rfl, h4⟩ | ⟨rfl, h4⟩, rfl, rfl, rfl⟩
        · refine aw_if_ne (tgt := 44) dX6_ship_39 (by decide) (by omega) (fun _ => ?_) (fun c_39 => absurd c_39 (by decide))
          refine aw_iload_n dX6_ship_44 rfl rfl ?_
          refine aw_aload_n dX6_ship_45 rfl rfl ?_
          refine rr_getS dX6_ship_46 flX6_112 rfl (by decide) (fun _ => rfl) ?_
          refine aw_icmp_ge (tgt := 55) dX6_ship_49 (by decide) (by omega) (by omega) (fun c_49 => ?_) (fun c_49 => ?_)
          · refine aw_aload_n dX6_ship_55 rfl rfl ?_
            refine rr_getS dX6_ship_56 flX6_119 rfl (by decide) (fun _ => rfl) ?_
            refine aw_bipush dX6_ship_59 (by decide) ?_
            refine aw_icmp_ne (tgt := 67) dX6_ship_61 (by decide) (by omega) (by omega) (fun c_61 => ?_) (fun c_61 => ?_)
            · refine aw_aload_n dX6_ship_67 rfl rfl ?_
              refine rr_getA dX6_ship_68 flX6_30 rfl (by decide) ?_
              refine aw_aload_n dX6_ship_71 rfl rfl ?_
              refine rr_getS dX6_ship_72 flX6_119 rfl (by decide) (fun _ => rfl) ?_
              refine aw_iload_n dX6_ship_75 rfl rfl ?_
              refine rr_iast (n := 30) dX6_ship_76 rfl rfl rfl (by omega) (by omega) ?_
              refine aw_aload_n dX6_ship_77 rfl rfl ?_
              refine rr_getA dX6_ship_78 flX6_33 rfl (by decide) ?_
              refine aw_aload_n dX6_ship_81 rfl rfl ?_
              refine rr_getS (S0 := S) dX6_ship_82 flX6_119 rfl (by decide) (fun _ => rfl) ?_
              refine aw_iload_n dX6_ship_85 rfl rfl ?_
              refine rr_iast (n := 30) dX6_ship_86 rfl rfl rfl (by omega) (by omega) ?_
              refine aw_aload_n dX6_ship_87 rfl rfl ?_
              refine rr_getA dX6_ship_88 flX6_36 rfl (by decide) ?_
              refine aw_aload_n dX6_ship_91 rfl rfl ?_
              refine rr_getS (S0 := S) dX6_ship_92 flX6_119 rfl (by decide) (fun _ => rfl) ?_
              refine aw_iload_n dX6_ship_95 rfl rfl ?_
              refine rr_zast (n := 30) dX6_ship_96 rfl rfl rfl (by omega) (by omega) (by omega) ?_
              refine aw_aload_n dX6_ship_97 rfl rfl ?_
              refine rr_getA dX6_ship_98 flX6_39 rfl (by decide) ?_
              refine aw_aload_n dX6_ship_101 rfl rfl ?_
              refine rr_getS (S0 := S) dX6_ship_102 flX6_119 rfl (by decide) (fun _ => rfl) ?_
              refine aw_iload dX6_ship_105 rfl ?_
              refine rr_iast (n := 30) dX6_ship_107 rfl rfl rfl (by omega) (by omega) ?_
              refine aw_aload_n dX6_ship_108 rfl rfl ?_
              refine rr_getA dX6_ship_109 flX6_42 rfl (by decide) ?_
              refine aw_aload_n dX6_ship_112 rfl rfl ?_
              refine rr_getS (S0 := S) dX6_ship_113 flX6_119 rfl (by decide) (fun _ => rfl) ?_
              refine aw_iload dX6_ship_116 rfl ?_
              refine rr_zast (n := 30) dX6_ship_118 rfl rfl rfl (by omega) (by omega) (by omega) ?_
              refine aw_aload_n dX6_ship_119 rfl rfl ?_
              refine rr_getA dX6_ship_120 flX6_45 rfl (by decide) ?_
              refine aw_aload_n dX6_ship_123 rfl rfl ?_
              refine rr_getS (S0 := S) dX6_ship_124 flX6_119 rfl (by decide) (fun _ => rfl) ?_
              refine aw_iload dX6_ship_127 rfl ?_
              refine rr_iast (n := 30) dX6_ship_129 rfl rfl rfl (by omega) (by omega) ?_
              refine aw_aload_n dX6_ship_130 rfl rfl ?_
              refine rr_getA dX6_ship_131 flX6_48 rfl (by decide) ?_
              refine aw_aload_n dX6_ship_134 rfl rfl ?_
              refine rr_getS (S0 := S) dX6_ship_135 flX6_119 rfl (by decide) (fun _ => rfl) ?_
              refine aw_iconst dX6_ship_138 ?_
              refine rr_iast (n := 30) dX6_ship_139 rfl rfl rfl (by omega) (by omega) ?_
              refine aw_aload_n dX6_ship_140 rfl rfl ?_
              refine rr_getA dX6_ship_141 flX6_60 rfl (by decide) ?_
              refine aw_aload_n dX6_ship_144 rfl rfl ?_
              refine rr_getS (S0 := S) dX6_ship_145 flX6_119 rfl (by decide) (fun _ => rfl) ?_
              refine aw_bipush dX6_ship_148 (by decide) ?_
              refine rr_iast (n := 30) dX6_ship_150 rfl rfl rfl (by omega) (by omega) ?_
              refine aw_aload_n dX6_ship_151 rfl rfl ?_
              refine rr_getA dX6_ship_152 flX6_63 rfl (by decide) ?_
              refine aw_aload_n dX6_ship_155 rfl rfl ?_
              refine rr_getS (S0 := S) dX6_ship_156 flX6_119 rfl (by decide) (fun _ => rfl) ?_
              refine aw_bipush dX6_ship_159 (by decide) ?_
              refine rr_iast (n := 30) dX6_ship_161 rfl rfl rfl (by omega) (by omega) ?_
              refine aw_aload_n dX6_ship_162 rfl rfl ?_
              refine rr_getA dX6_ship_163 flX6_69 rfl (by decide) ?_
              refine aw_aload_n dX6_ship_166 rfl rfl ?_
              refine rr_getS (S0 := S) dX6_ship_167 flX6_119 rfl (by decide) (fun _ => rfl) ?_
              refine aw_bipush dX6_ship_170 (by decide) ?_
              refine rr_iast (n := 30) dX6_ship_172 rfl rfl rfl (by omega) (by omega) ?_
              refine aw_aload_n dX6_ship_173 rfl rfl ?_
              refine aw_dup dX6_ship_174 ?_
              refine rr_getS (S0 := S) dX6_ship_175 flX6_119 rfl (by decide) (fun _ => rfl) ?_
              refine aw_iconst dX6_ship_178 ?_
              refine aw_iadd dX6_ship_179 ?_
              refine rr_put dX6_ship_180 flX6_119 rfl (by decide) rfl trivial ?_
              refine aw_aload_n dX6_ship_183 rfl rfl ?_
              refine rr_getS (S0 := u2 S 8 0 (S 8 0 + 1)) dX6_ship_184 flX6_119 rfl (by decide) (fun _ => rfl) ?_
              refine aw_iconst dX6_ship_187 ?_
              refine aw_isub dX6_ship_188 ?_
              refine aw_iret dX6_ship_189 rfl (Nat.zero_le _) (Nat.zero_le _) ?_
              have e : opShip S w m g d sl t = (S 8 0, u2 (u2 (u2 (u2 (u2 (u2 (u2 (u2 (u2 (u2 (u2 S 9 (S 8 0) w) 10 (S 8 0) m) 11 (S 8 0) g) 12 (S 8 0) d) 13 (S 8 0) sl) 14 (S 8 0) t) 15 (S 8 0) (-1)) 19 (S 8 0) (-4)) 20 (S 8 0) (-4)) 22 (S 8 0) (-4)) 8 0 (S 8 0 + 1)) := by
                unfold opShip
                repeat (first | rw [if_pos (by omega)] | rw [if_neg (by omega)])
              rw [e]
              refine ⟨?_, rfl, rfl, rfl⟩
              rw [u2_self, Int.add_sub_cancel]
            · refine aw_bipush dX6_ship_64 (by decide) ?_
              refine aw_iret dX6_ship_66 rfl (Nat.zero_le _) (Nat.zero_le _) ?_
              have e : opShip S w m g d sl t = (-3, S) := by
                unfold opShip
                repeat (first | rw [if_pos (by omega)] | rw [if_neg (by omega)])
              rw [e]
              exact ⟨rfl, rfl, rfl, rfl⟩
          · refine aw_bipush dX6_ship_52 (by decide) ?_
            refine aw_iret dX6_ship_54 rfl (Nat.zero_le _) (Nat.zero_le _) ?_
            have e : opShip S w m g d sl t = (-2, S) := by
              unfold opShip
              repeat (first | rw [if_pos (by omega)] | rw [if_neg (by omega)])
            rw [e]
            exact ⟨rfl, rfl, rfl, rfl⟩
        · refine aw_if_ne (tgt := 44) dX6_ship_39 (by decide) (by omega) (fun c_39 => absurd c_39 (by decide)) (fun _ => ?_)
          refine aw_iconst dX6_ship_42 ?_
          refine aw_iret dX6_ship_43 rfl (Nat.zero_le _) (Nat.zero_le _) ?_
          have e : opShip S w m g d sl t = (-1, S) := by
            unfold opShip
            repeat (first | rw [if_pos (by omega)] | rw [if_neg (by omega)])
          rw [e]
          exact ⟨rfl, rfl, rfl, rfl⟩
      · refine aw_if_eq (tgt := 42) dX6_ship_28 (by decide) (by omega) (fun _ => ?_) (fun c_28 => absurd c_28 (by decide))
        refine aw_iconst dX6_ship_42 ?_
        refine aw_iret dX6_ship_43 rfl (Nat.zero_le _) (Nat.zero_le _) ?_
        have e : opShip S w m g d sl t = (-1, S) := by
          unfold opShip
          repeat (first | rw [if_pos (by omega)] | rw [if_neg (by omega)])
        rw [e]
        exact ⟨rfl, rfl, rfl, rfl⟩
    · refine aw_if_eq (tgt := 42) dX6_ship_17 (by decide) (by omega) (fun _ => ?_) (fun c_17 => absurd c_17 (by decide))
      refine aw_iconst dX6_ship_42 ?_
      refine aw_iret dX6_ship_43 rfl (Nat.zero_le _) (Nat.zero_le _) ?_
      have e : opShip S w m g d sl t = (-1, S) := by
        unfold opShip
        repeat (first | rw [if_pos (by omega)] | rw [if_neg (by omega)])
      rw [e]
      exact ⟨rfl, rfl, rfl, rfl⟩
  · refine aw_if_eq (tgt := 42) dX6_ship_6 (by decide) (by omega) (fun _ => ?_) (fun c_6 => absurd c_6 (by decide))
    refine aw_iconst dX6_ship_42 ?_
    refine aw_iret dX6_ship_43 rfl (Nat.zero_le _) (Nat.zero_le _) ?_
    have e : opShip S w m g d sl t = (-1, S) := by
      unfold opShip
      repeat (first | rw [if_pos (by omega)] | rw [if_neg (by omega)])
    rw [e]
    exact ⟨rfl, rfl, rfl, rfl⟩
set_option maxRecDepth 100000 in
set_option maxHeartbeats 4000000 in
theorem c_X6_convoy {w f : Int} (hB : BB S) (hw : Rg w) (hf : Rg f) : CT l D cA A ad yX6_convoy cX6_convoy 3 (some .int) rm_X6_convoy [.inr (some (50, 0)), .inl w, .inl f] lvR (VR S) sz (PR (some (.inl (opConv S w f).1)) ((opConv S w f).2) sz) := by
  refine CT.of2 [some (.inr (some (50, 0))), some (.inl w), some (.inl f)] (by decide) (Nat.le_of_ble_eq_true rfl) rfl ?_
  have hb := hB.m
  simp only [bsm] at hb
  refine aw_iload_n dX6_convoy_0 rfl rfl ?_
  refine aw_iconst dX6_convoy_1 ?_
  refine aw_iconst dX6_convoy_2 ?_
  refine aw_callS (c_X6_isIn (by omega) (by omega) (by omega)) mv_X6_isIn mlX6_108 dX6_convoy_3 (by decide) rfl (Nat.le_of_ble_eq_true rfl) rfl ?_
  rintro _ _ _ _ ⟨⟨rfl, h1⟩ | ⟨rfl, h1⟩, rfl, rfl, rfl⟩
  · refine aw_if_eq (tgt := 20) dX6_convoy_6 (by decide) (by omega) (fun c_6 => absurd c_6 (by decide)) (fun _ => ?_)
    refine aw_iload_n dX6_convoy_9 rfl rfl ?_
    refine aw_iconst dX6_convoy_10 ?_
    refine aw_sipush dX6_convoy_11 (by decide) ?_
    refine aw_callS (c_X6_isIn (by omega) (by omega) (by omega)) mv_X6_isIn mlX6_108 dX6_convoy_14 (by decide) rfl (Nat.le_of_ble_eq_true rfl) rfl ?_
    rintro _ _ _ _ ⟨⟨rfl, h2⟩ | ⟨rfl, h2⟩, rfl, rfl, rfl⟩
    · refine aw_if_ne (tgt := 22) dX6_convoy_17 (by decide) (by omega) (fun _ => ?_) (fun c_17 => absurd c_17 (by decide))
      refine aw_iload_n dX6_convoy_22 rfl rfl ?_
      refine aw_aload_n dX6_convoy_23 rfl rfl ?_
      refine rr_getS dX6_convoy_24 flX6_112 rfl (by decide) (fun _ => rfl) ?_
      refine aw_icmp_gt (tgt := 33) dX6_convoy_27 (by decide) (by omega) (by omega) (fun c_27 => ?_) (fun c_27 => ?_)
      · refine aw_aload_n dX6_convoy_33 rfl rfl ?_
        refine rr_getS dX6_convoy_34 flX6_122 rfl (by decide) (fun _ => rfl) ?_
        refine aw_bipush dX6_convoy_37 (by decide) ?_
        refine aw_icmp_ne (tgt := 45) dX6_convoy_39 (by decide) (by omega) (by omega) (fun c_39 => ?_) (fun c_39 => ?_)
        · refine aw_aload_n dX6_convoy_45 rfl rfl ?_
          refine rr_getA dX6_convoy_46 flX6_75 rfl (by decide) ?_
          refine aw_aload_n dX6_convoy_49 rfl rfl ?_
          refine rr_getS dX6_convoy_50 flX6_122 rfl (by decide) (fun _ => rfl) ?_
          refine aw_iload_n dX6_convoy_53 rfl rfl ?_
          refine rr_iast (n := 12) dX6_convoy_54 rfl rfl rfl (by omega) (by omega) ?_
          refine aw_aload_n dX6_convoy_55 rfl rfl ?_
          refine rr_getA dX6_convoy_56 flX6_78 rfl (by decide) ?_
          refine aw_aload_n dX6_convoy_59 rfl rfl ?_
          refine rr_getS (S0 := S) dX6_convoy_60 flX6_122 rfl (by decide) (fun _ => rfl) ?_
          refine aw_iload_n dX6_convoy_63 rfl rfl ?_
          refine rr_iast (n := 12) dX6_convoy_64 rfl rfl rfl (by omega) (by omega) ?_
          refine aw_aload_n dX6_convoy_65 rfl rfl ?_
          refine aw_dup dX6_convoy_66 ?_
          refine rr_getS (S0 := S) dX6_convoy_67 flX6_122 rfl (by decide) (fun _ => rfl) ?_
          refine aw_iconst dX6_convoy_70 ?_
          refine aw_iadd dX6_convoy_71 ?_
          refine rr_put dX6_convoy_72 flX6_122 rfl (by decide) rfl trivial ?_
          refine aw_aload_n dX6_convoy_75 rfl rfl ?_
          refine rr_getS (S0 := u2 S 24 0 (S 24 0 + 1)) dX6_convoy_76 flX6_122 rfl (by decide) (fun _ => rfl) ?_
          refine aw_iconst dX6_convoy_79 ?_
          refine aw_isub dX6_convoy_80 ?_
          refine aw_iret dX6_convoy_81 rfl (Nat.zero_le _) (Nat.zero_le _) ?_
          have e : opConv S w f = (S 24 0, u2 (u2 (u2 S 25 (S 24 0) w) 26 (S 24 0) f) 24 0 (S 24 0 + 1)) := by
            unfold opConv
            repeat (first | rw [if_pos (by omega)] | rw [if_neg (by omega)])
          rw [e]
          refine ⟨?_, rfl, rfl, rfl⟩
          rw [u2_self, Int.add_sub_cancel]
        · refine aw_bipush dX6_convoy_42 (by decide) ?_
          refine aw_iret dX6_convoy_44 rfl (Nat.zero_le _) (Nat.zero_le _) ?_
          have e : opConv S w f = (-3, S) := by
            unfold opConv
            repeat (first | rw [if_pos (by omega)] | rw [if_neg (by omega)])
          rw [e]
          exact ⟨rfl, rfl, rfl, rfl⟩
      · refine aw_bipush dX6_convoy_30 (by decide) ?_
        refine aw_iret dX6_convoy_32 rfl (Nat.zero_le _) (Nat.zero_le _) ?_
        have e : opConv S w f = (-2, S) := by
          unfold opConv
          repeat (first | rw [if_pos (by omega)] | rw [if_neg (by omega)])
        rw [e]
        exact ⟨rfl, rfl, rfl, rfl⟩
    · refine aw_if_ne (tgt := 22) dX6_convoy_17 (by decide) (by omega) (fun c_17 => absurd c_17 (by decide)) (fun _ => ?_)
      refine aw_iconst dX6_convoy_20 ?_
      refine aw_iret dX6_convoy_21 rfl (Nat.zero_le _) (Nat.zero_le _) ?_
      have e : opConv S w f = (-1, S) := by
        unfold opConv
        repeat (first | rw [if_pos (by omega)] | rw [if_neg (by omega)])
      rw [e]
      exact ⟨rfl, rfl, rfl, rfl⟩
  · refine aw_if_eq (tgt := 20) dX6_convoy_6 (by decide) (by omega) (fun _ => ?_) (fun c_6 => absurd c_6 (by decide))
    refine aw_iconst dX6_convoy_20 ?_
    refine aw_iret dX6_convoy_21 rfl (Nat.zero_le _) (Nat.zero_le _) ?_
    have e : opConv S w f = (-1, S) := by
      unfold opConv
      repeat (first | rw [if_pos (by omega)] | rw [if_neg (by omega)])
    rw [e]
    exact ⟨rfl, rfl, rfl, rfl⟩
set_option maxRecDepth 100000 in
set_option maxHeartbeats 4000000 in
theorem c_X6_book {c s : Int} (hB : BB S) (hc0 : Rg c) (hs0 : Rg s) : CT l D cA A ad yX6_book cX6_book 3 (some .int) rm_X6_book [.inr (some (50, 0)), .inl c, .inl s] lvR (VR S) sz (PR (some (.inl (opBook S c s).1)) ((opBook S c s).2) sz) := by
  refine CT.of2 [some (.inr (some (50, 0))), some (.inl c), some (.inl s)] (by decide) (Nat.le_of_ble_eq_true rfl) rfl ?_
  have hb := hB.m
  simp only [bsm] at hb
  refine aw_iload_n dX6_book_0 rfl rfl ?_
  refine aw_iconst dX6_book_1 ?_
  refine aw_aload_n dX6_book_2 rfl rfl ?_
  refine rr_getS dX6_book_3 flX6_122 rfl (by decide) (fun _ => rfl) ?_
  refine aw_iconst dX6_book_6 ?_
  refine aw_isub dX6_book_7 ?_
  refine aw_callS (c_X6_isIn (by omega) (by omega) (by omega)) mv_X6_isIn mlX6_108 dX6_book_8 (by decide) rfl (Nat.le_of_ble_eq_true rfl) rfl ?_
  rintro _ _ _ _ ⟨⟨rfl, h1⟩ | ⟨rfl, h1⟩, rfl, rfl, rfl⟩
  · refine aw_if_eq (tgt := 28) dX6_book_11 (by decide) (by omega) (fun c_11 => absurd c_11 (by decide)) (fun _ => ?_)
    refine aw_iload_n dX6_book_14 rfl rfl ?_
    refine aw_iconst dX6_book_15 ?_
    refine aw_aload_n dX6_book_16 rfl rfl ?_
    refine rr_getS dX6_book_17 flX6_119 rfl (by decide) (fun _ => rfl) ?_
    refine aw_iconst dX6_book_20 ?_
    refine aw_isub dX6_book_21 ?_
    refine aw_callS (c_X6_isIn (by omega) (by omega) (by omega)) mv_X6_isIn mlX6_108 dX6_book_22 (by decide) rfl (Nat.le_of_ble_eq_true rfl) rfl ?_
    rintro _ _ _ _ ⟨⟨rfl, h2⟩ | ⟨rfl, h2⟩, rfl, rfl, rfl⟩
    · refine aw_if_ne (tgt := 30) dX6_book_25 (by decide) (by omega) (fun _ => ?_) (fun c_25 => absurd c_25 (by decide))
      have hc := hB.cv (c := c) (by omega) (by omega)
      have hsh := hB.sh (s := s) (by omega) (by omega)
      simp only [bcv] at hc
      simp only [bsh] at hsh
      refine aw_aload_n dX6_book_30 rfl rfl ?_
      refine rr_getA dX6_book_31 flX6_30 rfl (by decide) ?_
      refine aw_iload_n dX6_book_34 rfl rfl ?_
      refine rr_iald (n := 30) dX6_book_35 rfl rfl rfl (by omega) (by omega) (fun _ => rfl) ?_
      refine aw_aload_n dX6_book_36 rfl rfl ?_
      refine rr_getA dX6_book_37 flX6_75 rfl (by decide) ?_
      refine aw_iload_n dX6_book_40 rfl rfl ?_
      refine rr_iald (n := 12) dX6_book_41 rfl rfl rfl (by omega) (by omega) (fun _ => rfl) ?_
      refine aw_icmp_ne (tgt := 91) dX6_book_42 (by decide) (by omega) (by omega) (fun c_42 => ?_) (fun c_42 => ?_)
      · refine aw_bipush dX6_book_91 (by decide) ?_
        refine aw_iret dX6_book_93 rfl (Nat.zero_le _) (Nat.zero_le _) ?_
        have e : opBook S c s = (-2, S) := by
          unfold opBook
          repeat (first | rw [if_pos (by omega)] | rw [if_neg (by omega)])
        rw [e]
        exact ⟨rfl, rfl, rfl, rfl⟩
      · refine aw_aload_n dX6_book_45 rfl rfl ?_
        refine rr_getA dX6_book_46 flX6_69 rfl (by decide) ?_
        refine aw_iload_n dX6_book_49 rfl rfl ?_
        refine rr_iald (n := 30) dX6_book_50 rfl rfl rfl (by omega) (by omega) (fun _ => rfl) ?_
        refine aw_bipush dX6_book_51 (by decide) ?_
        refine aw_icmp_ne (tgt := 91) dX6_book_53 (by decide) (by omega) (by omega) (fun c_53 => ?_) (fun c_53 => ?_)
        · refine aw_bipush dX6_book_91 (by decide) ?_
          refine aw_iret dX6_book_93 rfl (Nat.zero_le _) (Nat.zero_le _) ?_
          have e : opBook S c s = (-2, S) := by
            unfold opBook
            repeat (first | rw [if_pos (by omega)] | rw [if_neg (by omega)])
          rw [e]
          exact ⟨rfl, rfl, rfl, rfl⟩
        · refine aw_aload_n dX6_book_56 rfl rfl ?_
          refine rr_getA dX6_book_57 flX6_57 rfl (by decide) ?_
          refine aw_iload_n dX6_book_60 rfl rfl ?_
          refine rr_zald (n := 30) dX6_book_61 rfl rfl rfl (by omega) (by omega) (fun _ => rfl) ?_
          refine aw_if_ne (tgt := 91) dX6_book_62 (by decide) (by omega) (fun c_62 => ?_) (fun c_62 => ?_)
          · refine aw_bipush dX6_book_91 (by decide) ?_
            refine aw_iret dX6_book_93 rfl (Nat.zero_le _) (Nat.zero_le _) ?_
            have e : opBook S c s = (-2, S) := by
              unfold opBook
              repeat (first | rw [if_pos (by omega)] | rw [if_neg (by omega)])
            rw [e]
            exact ⟨rfl, rfl, rfl, rfl⟩
          · refine aw_aload_n dX6_book_65 rfl rfl ?_
            refine rr_getA dX6_book_66 flX6_78 rfl (by decide) ?_
            refine aw_iload_n dX6_book_69 rfl rfl ?_
            refine rr_iald (n := 12) dX6_book_70 rfl rfl rfl (by omega) (by omega) (fun _ => rfl) ?_
            refine aw_aload_n dX6_book_71 rfl rfl ?_
            refine rr_getS dX6_book_72 flX6_112 rfl (by decide) (fun _ => rfl) ?_
            refine aw_icmp_le (tgt := 91) dX6_book_75 (by decide) (by omega) (by omega) (fun c_75 => ?_) (fun c_75 => ?_)
            · refine aw_bipush dX6_book_91 (by decide) ?_
              refine aw_iret dX6_book_93 rfl (Nat.zero_le _) (Nat.zero_le _) ?_
              have e : opBook S c s = (-2, S) := by
                unfold opBook
                repeat (first | rw [if_pos (by omega)] | rw [if_neg (by omega)])
              rw [e]
              exact ⟨rfl, rfl, rfl, rfl⟩
            · refine aw_aload_n dX6_book_78 rfl rfl ?_
              refine rr_getA dX6_book_79 flX6_33 rfl (by decide) ?_
              refine aw_iload_n dX6_book_82 rfl rfl ?_
              refine rr_iald (n := 30) dX6_book_83 rfl rfl rfl (by omega) (by omega) (fun _ => rfl) ?_
              refine aw_aload_n dX6_book_84 rfl rfl ?_
              refine rr_getS dX6_book_85 flX6_112 rfl (by decide) (fun _ => rfl) ?_
              refine aw_icmp_ge (tgt := 94) dX6_book_88 (by decide) (by omega) (by omega) (fun c_88 => ?_) (fun c_88 => ?_)
              · refine aw_aload_n dX6_book_94 rfl rfl ?_
                refine rr_getA dX6_book_95 flX6_81 rfl (by decide) ?_
                refine aw_iload_n dX6_book_98 rfl rfl ?_
                refine rr_iald (n := 12) dX6_book_99 rfl rfl rfl (by omega) (by omega) (fun _ => rfl) ?_
                refine aw_bipush dX6_book_100 (by decide) ?_
                refine aw_icmp_ne (tgt := 108) dX6_book_102 (by decide) (by omega) (by omega) (fun c_102 => ?_) (fun c_102 => ?_)
                · refine aw_aload_n dX6_book_108 rfl rfl ?_
                  refine rr_getA dX6_book_109 flX6_84 rfl (by decide) ?_
                  refine aw_bipush dX6_book_112 (by decide) ?_
                  refine aw_iload_n dX6_book_114 rfl rfl ?_
                  refine aw_imul dX6_book_115 ?_
                  refine aw_aload_n dX6_book_116 rfl rfl ?_
                  refine rr_getA dX6_book_117 flX6_81 rfl (by decide) ?_
                  refine aw_iload_n dX6_book_120 rfl rfl ?_
                  refine rr_iald (n := 12) dX6_book_121 rfl rfl rfl (by omega) (by omega) (fun _ => rfl) ?_
                  refine aw_iadd dX6_book_122 ?_
                  refine aw_iload_n dX6_book_123 rfl rfl ?_
                  refine rr_iast (n := 96) dX6_book_124 rfl rfl rfl (by omega) (by omega) ?_
                  refine aw_aload_n dX6_book_125 rfl rfl ?_
                  refine rr_getA dX6_book_126 flX6_81 rfl (by decide) ?_
                  refine aw_iload_n dX6_book_129 rfl rfl ?_
                  refine aw_dup2 dX6_book_130 ?_
                  refine rr_iald (n := 12) (S0 := S) dX6_book_131 rfl rfl rfl (by omega) (by omega) (fun _ => rfl) ?_
                  refine aw_iconst dX6_book_132 ?_
                  refine aw_iadd dX6_book_133 ?_
                  refine rr_iast (n := 12) dX6_book_134 rfl rfl rfl (by omega) (by omega) ?_
                  refine aw_aload_n dX6_book_135 rfl rfl ?_
                  refine rr_getA dX6_book_136 flX6_69 rfl (by decide) ?_
                  refine aw_iload_n dX6_book_139 rfl rfl ?_
                  refine aw_iload_n dX6_book_140 rfl rfl ?_
                  refine rr_iast (n := 30) dX6_book_141 rfl rfl rfl (by omega) (by omega) ?_
                  refine aw_aload_n dX6_book_142 rfl rfl ?_
                  refine rr_getA dX6_book_143 flX6_81 rfl (by decide) ?_
                  refine aw_iload_n dX6_book_146 rfl rfl ?_
                  refine rr_iald (n := 12) (S0 := u2 S 27 c (S 27 c + 1)) dX6_book_147 rfl rfl rfl (by omega) (by omega) (fun _ => rfl) ?_
                  refine aw_iret dX6_book_148 rfl (Nat.zero_le _) (Nat.zero_le _) ?_
                  have e : opBook S c s = (S 27 c + 1, u2 (u2 (u2 S 28 (8 * c + S 27 c) s) 27 c (S 27 c + 1)) 22 s c) := by
                    unfold opBook
                    repeat (first | rw [if_pos (by omega)] | rw [if_neg (by omega)])
                  rw [e]
                  refine ⟨?_, rfl, rfl, rfl⟩
                  rw [u2_self]
                · refine aw_bipush dX6_book_105 (by decide) ?_
                  refine aw_iret dX6_book_107 rfl (Nat.zero_le _) (Nat.zero_le _) ?_
                  have e : opBook S c s = (-3, S) := by
                    unfold opBook
                    repeat (first | rw [if_pos (by omega)] | rw [if_neg (by omega)])
                  rw [e]
                  exact ⟨rfl, rfl, rfl, rfl⟩
              · refine aw_bipush dX6_book_91 (by decide) ?_
                refine aw_iret dX6_book_93 rfl (Nat.zero_le _) (Nat.zero_le _) ?_
                have e : opBook S c s = (-2, S) := by
                  unfold opBook
                  repeat (first | rw [if_pos (by omega)] | rw [if_neg (by omega)])
                rw [e]
                exact ⟨rfl, rfl, rfl, rfl⟩
    · refine aw_if_ne (tgt := 30) dX6_book_25 (by decide) (by omega) (fun c_25 => absurd c_25 (by decide)) (fun _ => ?_)
      refine aw_iconst dX6_book_28 ?_
      refine aw_iret dX6_book_29 rfl (Nat.zero_le _) (Nat.zero_le _) ?_
      have e : opBook S c s = (-1, S) := by
        unfold opBook
        repeat (first | rw [if_pos (by omega)] | rw [if_neg (by omega)])
      rw [e]
      exact ⟨rfl, rfl, rfl, rfl⟩
  · refine aw_if_eq (tgt := 28) dX6_book_11 (by decide) (by omega) (fun _ => ?_) (fun c_11 => absurd c_11 (by decide))
    refine aw_iconst dX6_book_28 ?_
    refine aw_iret dX6_book_29 rfl (Nat.zero_le _) (Nat.zero_le _) ?_
    have e : opBook S c s = (-1, S) := by
      unfold opBook
      repeat (first | rw [if_pos (by omega)] | rw [if_neg (by omega)])
    rw [e]
    exact ⟨rfl, rfl, rfl, rfl⟩
set_option maxRecDepth 100000 in
set_option maxHeartbeats 4000000 in
theorem c_X6_ground {s n : Int} (hB : BB S) (hs0 : Rg s) (hn : Rg n) : CT l D cA A ad yX6_ground cX6_ground 3 (some .int) rm_X6_ground [.inr (some (50, 0)), .inl s, .inl n] lvR (VR S) sz (PR (some (.inl (opGrd S s n).1)) ((opGrd S s n).2) sz) := by
  refine CT.of2 [some (.inr (some (50, 0))), some (.inl s), some (.inl n)] (by decide) (Nat.le_of_ble_eq_true rfl) rfl ?_
  have hb := hB.m
  simp only [bsm] at hb
  refine aw_iload_n dX6_ground_0 rfl rfl ?_
  refine aw_iconst dX6_ground_1 ?_
  refine aw_aload_n dX6_ground_2 rfl rfl ?_
  refine rr_getS dX6_ground_3 flX6_119 rfl (by decide) (fun _ => rfl) ?_
  refine aw_iconst dX6_ground_6 ?_
  refine aw_isub dX6_ground_7 ?_
  refine aw_callS (c_X6_isIn (by omega) (by omega) (by omega)) mv_X6_isIn mlX6_108 dX6_ground_8 (by decide) rfl (Nat.le_of_ble_eq_true rfl) rfl ?_
  rintro _ _ _ _ ⟨⟨rfl, h1⟩ | ⟨rfl, h1⟩, rfl, rfl, rfl⟩
  · refine aw_if_eq (tgt := 25) dX6_ground_11 (by decide) (by omega) (fun c_11 => absurd c_11 (by decide)) (fun _ => ?_)
    refine aw_iload_n dX6_ground_14 rfl rfl ?_
    refine aw_iconst dX6_ground_15 ?_
    refine aw_sipush dX6_ground_16 (by decide) ?_
    refine aw_callS (c_X6_isIn (by omega) (by omega) (by omega)) mv_X6_isIn mlX6_108 dX6_ground_19 (by decide) rfl (Nat.le_of_ble_eq_true rfl) rfl ?_
    rintro _ _ _ _ ⟨⟨rfl, h2⟩ | ⟨rfl, h2⟩, rfl, rfl, rfl⟩
    · refine aw_if_ne (tgt := 27) dX6_ground_22 (by decide) (by omega) (fun _ => ?_) (fun c_22 => absurd c_22 (by decide))
      have hsh := hB.sh (s := s) (by omega) (by omega)
      simp only [bsh] at hsh
      refine aw_aload_n dX6_ground_27 rfl rfl ?_
      refine rr_getA dX6_ground_28 flX6_48 rfl (by decide) ?_
      refine aw_iload_n dX6_ground_31 rfl rfl ?_
      refine rr_iald (n := 30) dX6_ground_32 rfl rfl rfl (by omega) (by omega) (fun _ => rfl) ?_
      refine aw_iconst dX6_ground_33 ?_
      refine aw_bipush dX6_ground_34 (by decide) ?_
      refine aw_callS (c_X6_isIn (by omega) (by omega) (by omega)) mv_X6_isIn mlX6_108 dX6_ground_36 (by decide) rfl (Nat.le_of_ble_eq_true rfl) rfl ?_
      rintro _ _ _ _ ⟨⟨rfl, h3⟩ | ⟨rfl, h3⟩, rfl, rfl, rfl⟩
      · refine aw_if_eq (tgt := 51) dX6_ground_39 (by decide) (by omega) (fun c_39 => absurd c_39 (by decide)) (fun _ => ?_)
        refine aw_aload_n dX6_ground_42 rfl rfl ?_
        refine rr_getA dX6_ground_43 flX6_66 rfl (by decide) ?_
        refine aw_iload_n dX6_ground_46 rfl rfl ?_
        refine rr_iald (n := 30) dX6_ground_47 rfl rfl rfl (by omega) (by omega) (fun _ => rfl) ?_
        refine aw_if_le (tgt := 54) dX6_ground_48 (by decide) (by omega) (fun c_48 => ?_) (fun c_48 => ?_)
        · refine aw_aload_n dX6_ground_54 rfl rfl ?_
          refine rr_getA dX6_ground_55 flX6_66 rfl (by decide) ?_
          refine aw_iload_n dX6_ground_58 rfl rfl ?_
          refine aw_iload_n dX6_ground_59 rfl rfl ?_
          refine rr_iast (n := 30) dX6_ground_60 rfl rfl rfl (by omega) (by omega) ?_
          refine aw_iconst dX6_ground_61 ?_
          refine aw_iret dX6_ground_62 rfl (Nat.zero_le _) (Nat.zero_le _) ?_
          have e : opGrd S s n = (1, u2 S 21 s n) := by
            unfold opGrd
            repeat (first | rw [if_pos (by omega)] | rw [if_neg (by omega)])
          rw [e]
          exact ⟨rfl, rfl, rfl, rfl⟩
        · refine aw_bipush dX6_ground_51 (by decide) ?_
          refine aw_iret dX6_ground_53 rfl (Nat.zero_le _) (Nat.zero_le _) ?_
          have e : opGrd S s n = (-2, S) := by
            unfold opGrd
            repeat (first | rw [if_pos (by omega)] | rw [if_neg (by omega)])
          rw [e]
          exact ⟨rfl, rfl, rfl, rfl⟩
      · refine aw_if_eq (tgt := 51) dX6_ground_39 (by decide) (by omega) (fun _ => ?_) (fun c_39 => absurd c_39 (by decide))
        refine aw_bipush dX6_ground_51 (by decide) ?_
        refine aw_iret dX6_ground_53 rfl (Nat.zero_le _) (Nat.zero_le _) ?_
        have e : opGrd S s n = (-2, S) := by
          unfold opGrd
          repeat (first | rw [if_pos (by omega)] | rw [if_neg (by omega)])
        rw [e]
        exact ⟨rfl, rfl, rfl, rfl⟩
    · refine aw_if_ne (tgt := 27) dX6_ground_22 (by decide) (by omega) (fun c_22 => absurd c_22 (by decide)) (fun _ => ?_)
      refine aw_iconst dX6_ground_25 ?_
      refine aw_iret dX6_ground_26 rfl (Nat.zero_le _) (Nat.zero_le _) ?_
      have e : opGrd S s n = (-1, S) := by
        unfold opGrd
        repeat (first | rw [if_pos (by omega)] | rw [if_neg (by omega)])
      rw [e]
      exact ⟨rfl, rfl, rfl, rfl⟩
  · refine aw_if_eq (tgt := 25) dX6_ground_11 (by decide) (by omega) (fun _ => ?_) (fun c_11 => absurd c_11 (by decide))
    refine aw_iconst dX6_ground_25 ?_
    refine aw_iret dX6_ground_26 rfl (Nat.zero_le _) (Nat.zero_le _) ?_
    have e : opGrd S s n = (-1, S) := by
      unfold opGrd
      repeat (first | rw [if_pos (by omega)] | rw [if_neg (by omega)])
    rw [e]
    exact ⟨rfl, rfl, rfl, rfl⟩
set_option maxRecDepth 100000 in
set_option maxHeartbeats 4000000 in
theorem c_X6_joins {s : Int} (hs : 0 ≤ s ∧ s < 30) (hw : S 9 s = 0 ∨ S 9 s = 1) (hm : 0 ≤ S 31 (S 9 s) ∧ S 31 (S 9 s) < 30) : CT l D cA A ad yX6_joins cX6_joins 3 none rm_X6_joins [.inr (some (50, 0)), .inl s] lvR (VR S) sz (PR none (jn S s) sz) := by
  refine CT.of2 [some (.inr (some (50, 0))), some (.inl s), none] (by decide) (Nat.le_of_ble_eq_true rfl) rfl ?_
  refine aw_aload_n dX6_joins_0 rfl rfl ?_
  refine rr_getA dX6_joins_1 flX6_30 rfl (by decide) ?_
  refine aw_iload_n dX6_joins_4 rfl rfl ?_
  refine rr_iald (n := 30) dX6_joins_5 rfl rfl rfl (by omega) (by omega) (fun _ => rfl) ?_
  refine aw_istore_n dX6_joins_6 rfl (by decide) ?_
  refine aw_aload_n dX6_joins_7 rfl rfl ?_
  refine rr_getA dX6_joins_8 flX6_96 rfl (by decide) ?_
  refine aw_bipush dX6_joins_11 (by decide) ?_
  refine aw_iload_n dX6_joins_13 rfl rfl ?_
  refine aw_imul dX6_joins_14 ?_
  refine aw_aload_n dX6_joins_15 rfl rfl ?_
  refine rr_getA dX6_joins_16 flX6_93 rfl (by decide) ?_
  refine aw_iload_n dX6_joins_19 rfl rfl ?_
  refine rr_iald (n := 2) dX6_joins_20 rfl rfl rfl (by omega) (by omega) (fun _ => rfl) ?_
  refine aw_iadd dX6_joins_21 ?_
  refine aw_iload_n dX6_joins_22 rfl rfl ?_
  refine rr_iast (n := 60) dX6_joins_23 rfl rfl rfl (by omega) (by omega) ?_
  refine aw_aload_n dX6_joins_24 rfl rfl ?_
  refine rr_getA dX6_joins_25 flX6_93 rfl (by decide) ?_
  refine aw_iload_n dX6_joins_28 rfl rfl ?_
  refine aw_dup2 dX6_joins_29 ?_
  refine rr_iald (n := 2) (S0 := S) dX6_joins_30 rfl rfl rfl (by omega) (by omega) (fun _ => rfl) ?_
  refine aw_iconst dX6_joins_31 ?_
  refine aw_iadd dX6_joins_32 ?_
  refine rr_iast (n := 2) dX6_joins_33 rfl rfl rfl (by omega) (by omega) ?_
  refine aw_vret dX6_joins_34 rfl (Nat.zero_le _) (Nat.zero_le _) ?_
  exact ⟨rfl, rfl, rfl, rfl⟩
end REF1
end
section
/-! ===== what the functions leave as it is ===== -/
theorem jn_ne {S : SS} {s : Int} {k : Nat} (h1 : k ≠ 31) (h2 : k ≠ 32) (x : Int) : jn S s k x = S k x := by simp [jn, u2, h1, h2]
theorem stB_ne {S : SS} {c : Int} {k : Nat} (h1 : k ≠ 31) (h2 : k ≠ 32) (n : Nat) (x : Int) : stB S c n k x = S k x := by
  induction n with
  | zero => rfl
  | succ n ih =>
    simp only [stB]
    split
    · rw [jn_ne h1 h2, ih]
    · exact ih
theorem stP_ne {S : SS} {c : Int} {k : Nat} (h1 : k ≠ 31) (h2 : k ≠ 32) (n : Nat) (x : Int) : stP S c n k x = S k x := by
  induction n with
  | zero => rfl
  | succ n ih =>
    simp only [stP]
    rw [jn_ne h1 h2, ih]
theorem stC_ne {S : SS} {c : Int} {k : Nat} (h1 : k ≠ 31) (h2 : k ≠ 32) (x : Int) : stC S c k x = S k x := by
  simp only [stC]
  split
  · rw [stP_ne h1 h2, stB_ne h1 h2]
  · rfl
theorem sts_ne {S : SS} {k : Nat} (h1 : k ≠ 31) (h2 : k ≠ 32) (n : Nat) (x : Int) : sts S n k x = S k x := by
  induction n with
  | zero => rfl
  | succ n ih =>
    simp only [sts]
    rw [stC_ne h1 h2, ih]
theorem nx_bd (S : SS) (w : Int) (n : Nat) : nx S w n = -4 ∨ (0 ≤ nx S w n ∧ nx S w n < n) := by
  induction n with
  | zero => exact Or.inl rfl
  | succ n ih =>
    simp only [nx]
    split <;> omega
theorem nx_congr {S T : SS} (h0 : T 0 0 = S 0 0) (h1 : ∀ x, T 25 x = S 25 x) (h2 : ∀ x, T 26 x = S 26 x) (w : Int) (n : Nat) : nx T w n = nx S w n := by
  induction n with
  | zero => rfl
  | succ n ih => simp only [nx, ih, h0, h1, h2]
theorem wt_ne {S : SS} {y : Int} {k : Nat} (h : k ≠ 23) (x : Int) : wt S y k x = S k x := by simp [wt, u2, h]
theorem shf_ne {S : SS} {k0 k : Nat} {b : Int} (h : k ≠ k0) (n : Nat) (x : Int) : shf S k0 b n k x = S k x := by
  induction n with
  | zero => rfl
  | succ n ih =>
    simp only [shf]
    rw [u2_ne h, ih]
/-- what a shift leaves in the array itself -/
theorem shf_at (S : SS) (k : Nat) (b : Int) (n : Nat) (x : Int) : shf S k b n k x = if b ≤ x ∧ x < b + n then S k (x + 1) else S k x := by
  induction n generalizing x with
  | zero => simp only [shf]; rw [if_neg (by omega)]
  | succ n ih =>
    simp only [shf]
    rw [u2_at]
    by_cases h : x = b + n
    · subst h
      rw [if_pos rfl, ih, if_neg (by omega), if_pos (by omega)]
    · rw [if_neg h, ih]
      by_cases h2 : b ≤ x ∧ x < b + n
      · rw [if_pos h2, if_pos (by omega)]
      · rw [if_neg h2, if_neg (by omega)]
theorem shf_up (S : SS) (k : Nat) (b : Int) (n : Nat) : shf S k b n k (b + n + 1) = S k (b + n + 1) := by rw [shf_at, if_neg (by omega)]
theorem lvs_ne {S : SS} {sec w : Int} {k : Nat} (h1 : k ≠ 33) (h2 : k ≠ 34) (x : Int) : lvs S sec w k x = S k x := by
  simp only [lvs]
  rw [shf_ne h2, u2_ne h1]
theorem lvs_33 (S : SS) (sec w x : Int) : lvs S sec w 33 x = if x = 2 * sec + w then S 33 (2 * sec + w) - 1 else S 33 x := by
  simp only [lvs]
  rw [shf_ne (by decide), u2_at]
theorem qw_ne {S : SS} {w : Int} {k : Nat} (h : k ≠ 23) (n : Nat) (x : Int) : qw S w n k x = S k x := by
  induction n with
  | zero => rfl
  | succ n ih =>
    simp only [qw]
    rw [wt_ne h, ih]
theorem agd_ne {S : SS} {k : Nat} (h : k ≠ 21) (n : Nat) (x : Int) : agd S n k x = S k x := by
  induction n with
  | zero => rfl
  | succ n ih =>
    simp only [agd]
    rw [u2_ne h, ih]
theorem agd_hi {S : SS} (n : Nat) (x : Int) (h : (n : Int) ≤ x) : agd S n 21 x = S 21 x := by
  induction n with
  | zero => rfl
  | succ n ih =>
    simp only [agd]
    rw [u2_at, if_neg (by omega), ih (by omega)]
theorem exB_t {p : Nat → Bool} {n : Nat} (h : exB p n = true ∨ p n = true) : exB p (n + 1) = true := by
  rcases h with h | h <;> simp [exB, h]
theorem exB_f {p : Nat → Bool} {n : Nat} (h1 : exB p n = false) (h2 : p n = false) : exB p (n + 1) = false := by simp [exB, h1, h2]
theorem b2i_pos {b : Bool} (h : b2i b ≠ 0) : b = true := by
  cases b
  · exact absurd rfl h
  · rfl
theorem b2i_zero {b : Bool} (h : b2i b = 0) : b = false := by
  cases b
  · rfl
  · exact absurd h (by decide)
theorem lowF_le (S : SS) (n : Nat) : lowF S n ≤ n := by
  induction n with
  | zero => exact Nat.le_refl _
  | succ n ih =>
    simp only [lowF]
    split <;> omega
theorem cause_bd (S : SS) (s : Int) (sec : Nat) : -1 ≤ cause S s sec ∧ cause S s sec ≤ 5 := by
  simp only [cause]
  repeat (first | split | omega)
end
section
section REF2
variable {l : Launch} {D : va_G} {cA : Nat → ClassId} {A : Nat → Prop} {ad : Ad} {lv : Lw} {V : Vw} {sz : Nat} {S : SS}
set_option maxRecDepth 100000 in
set_option maxHeartbeats 4000000 in
theorem lp_X6_nextConvoy {w : Int} (hB : BB S) (hw : Rg w) : ∀ (f n : Nat), n + f = (S 24 0).toNat → AW l D cA A ad yX6_nextConvoy cX6_nextConvoy 5 (some .int) rm_X6_nextConvoy (PR (some (.inl (nx S w (S 24 0).toNat))) (S) sz) 0 0 lvR (VR S) sz 5 [some (.inr (some (50, 0))), some (.inl w), some (.inl (nx S w n)), some (.inl (n : Int)), none] [] := by
  have hm := hB.m
  simp only [bsm] at hm
  intro f
  induction f with
  | zero =>
    intro n hn
    have hnx := nx_bd S w n
    refine aw_iload_n dX6_nextConvoy_5 rfl rfl ?_
    refine aw_aload_n dX6_nextConvoy_6 rfl rfl ?_
    refine rr_getS dX6_nextConvoy_7 flX6_122 rfl (by decide) (fun _ => rfl) ?_
    refine aw_icmp_ge (tgt := 79) dX6_nextConvoy_10 (by decide) (by omega) (by omega) (fun c_10 => ?_) (fun c_10 => absurd c_10 (by omega))
    refine aw_iload_n dX6_nextConvoy_79 rfl rfl ?_
    refine aw_iret dX6_nextConvoy_80 rfl (Nat.zero_le _) (Nat.zero_le _) ?_
    rw [show (S 24 0).toNat = n by omega]
    exact ⟨rfl, rfl, rfl, rfl⟩
  | succ f ih =>
    intro n hn
    have hnx := nx_bd S w n
    have hc := hB.cv (c := (n : Int)) (by omega) (by omega)
    simp only [bcv] at hc
    have hc2 : 0 ≤ nx S w n → (0 ≤ S 26 (nx S w n) ∧ S 26 (nx S w n) ≤ 9999) := fun h => (hB.cv h (by omega)).2.1
    refine aw_iload_n dX6_nextConvoy_5 rfl rfl ?_
    refine aw_aload_n dX6_nextConvoy_6 rfl rfl ?_
    refine rr_getS dX6_nextConvoy_7 flX6_122 rfl (by decide) (fun _ => rfl) ?_
    refine aw_icmp_ge (tgt := 79) dX6_nextConvoy_10 (by decide) (by omega) (by omega) (fun c_10 => absurd c_10 (by omega)) (fun c_10 => ?_)
    refine aw_aload_n dX6_nextConvoy_13 rfl rfl ?_
    refine rr_getA dX6_nextConvoy_14 flX6_75 rfl (by decide) ?_
    refine aw_iload_n dX6_nextConvoy_17 rfl rfl ?_
    refine rr_iald (n := 12) dX6_nextConvoy_18 rfl rfl rfl (by omega) (by omega) (fun _ => rfl) ?_
    refine aw_iload_n dX6_nextConvoy_19 rfl rfl ?_
    refine aw_icmp_ne (tgt := 40) dX6_nextConvoy_20 (by decide) (by omega) (by omega) (fun c_20 => ?_) (fun c_20 => ?_)
    · refine aw_iconst dX6_nextConvoy_40 ?_
      refine aw_istore dX6_nextConvoy_41 (by decide) ?_
      refine aw_iload dX6_nextConvoy_43 rfl ?_
      refine aw_if_eq (tgt := 71) dX6_nextConvoy_45 (by decide) (by omega) (fun _ => ?_) (fun c_45 => absurd c_45 (by decide))
      refine aw_iload_n dX6_nextConvoy_71 rfl rfl ?_
      refine aw_istore_n dX6_nextConvoy_72 rfl (by decide) ?_
      refine aw_iinc dX6_nextConvoy_73 rfl (by decide) ?_
      refine aw_goto (tgt := 5) dX6_nextConvoy_76 (by decide) ?_
      refine AW.lss (ih (n + 1) (by omega)) (And.intro rfl (And.intro rfl (And.intro (congrArg Sum.inl ?_) (And.intro rfl trivial))))
      show (if _ then _ else _) = _
      first | rw [if_pos (by omega)] | rw [if_neg (by omega)]
    · refine aw_aload_n dX6_nextConvoy_23 rfl rfl ?_
      refine rr_getA dX6_nextConvoy_24 flX6_78 rfl (by decide) ?_
      refine aw_iload_n dX6_nextConvoy_27 rfl rfl ?_
      refine rr_iald (n := 12) dX6_nextConvoy_28 rfl rfl rfl (by omega) (by omega) (fun _ => rfl) ?_
      refine aw_aload_n dX6_nextConvoy_29 rfl rfl ?_
      refine rr_getS dX6_nextConvoy_30 flX6_112 rfl (by decide) (fun _ => rfl) ?_
      refine aw_icmp_le (tgt := 40) dX6_nextConvoy_33 (by decide) (by omega) (by omega) (fun c_33 => ?_) (fun c_33 => ?_)
      · refine aw_iconst dX6_nextConvoy_40 ?_
        refine aw_istore dX6_nextConvoy_41 (by decide) ?_
        refine aw_iload dX6_nextConvoy_43 rfl ?_
        refine aw_if_eq (tgt := 71) dX6_nextConvoy_45 (by decide) (by omega) (fun _ => ?_) (fun c_45 => absurd c_45 (by decide))
        refine aw_iload_n dX6_nextConvoy_71 rfl rfl ?_
        refine aw_istore_n dX6_nextConvoy_72 rfl (by decide) ?_
        refine aw_iinc dX6_nextConvoy_73 rfl (by decide) ?_
        refine aw_goto (tgt := 5) dX6_nextConvoy_76 (by decide) ?_
        refine AW.lss (ih (n + 1) (by omega)) (And.intro rfl (And.intro rfl (And.intro (congrArg Sum.inl ?_) (And.intro rfl trivial))))
        show (if _ then _ else _) = _
        first | rw [if_pos (by omega)] | rw [if_neg (by omega)]
      · refine aw_iconst dX6_nextConvoy_36 ?_
        refine aw_goto (tgt := 41) dX6_nextConvoy_37 (by decide) ?_
        refine aw_istore dX6_nextConvoy_41 (by decide) ?_
        refine aw_iload dX6_nextConvoy_43 rfl ?_
        refine aw_if_eq (tgt := 71) dX6_nextConvoy_45 (by decide) (by omega) (fun c_45 => absurd c_45 (by decide)) (fun _ => ?_)
        refine aw_iload_n dX6_nextConvoy_48 rfl rfl ?_
        refine aw_if_lt (tgt := 67) dX6_nextConvoy_49 (by decide) (by omega) (fun c_49 => ?_) (fun c_49 => ?_)
        · refine aw_iload_n dX6_nextConvoy_67 rfl rfl ?_
          refine aw_goto (tgt := 72) dX6_nextConvoy_68 (by decide) ?_
          refine aw_istore_n dX6_nextConvoy_72 rfl (by decide) ?_
          refine aw_iinc dX6_nextConvoy_73 rfl (by decide) ?_
          refine aw_goto (tgt := 5) dX6_nextConvoy_76 (by decide) ?_
          refine AW.lss (ih (n + 1) (by omega)) (And.intro rfl (And.intro rfl (And.intro (congrArg Sum.inl ?_) (And.intro rfl trivial))))
          show (if _ then _ else _) = _
          first | rw [if_pos (by omega)] | rw [if_neg (by omega)]
        · have hc3 := hc2 (by omega)
          refine aw_aload_n dX6_nextConvoy_52 rfl rfl ?_
          refine rr_getA dX6_nextConvoy_53 flX6_78 rfl (by decide) ?_
          refine aw_iload_n dX6_nextConvoy_56 rfl rfl ?_
          refine rr_iald (n := 12) dX6_nextConvoy_57 rfl rfl rfl (by omega) (by omega) (fun _ => rfl) ?_
          refine aw_aload_n dX6_nextConvoy_58 rfl rfl ?_
          refine rr_getA dX6_nextConvoy_59 flX6_78 rfl (by decide) ?_
          refine aw_iload_n dX6_nextConvoy_62 rfl rfl ?_
          refine rr_iald (n := 12) dX6_nextConvoy_63 rfl rfl rfl (by omega) (by omega) (fun _ => rfl) ?_
          refine aw_icmp_ge (tgt := 71) dX6_nextConvoy_64 (by decide) (by omega) (by omega) (fun c_64 => ?_) (fun c_64 => ?_)
          · refine aw_iload_n dX6_nextConvoy_71 rfl rfl ?_
            refine aw_istore_n dX6_nextConvoy_72 rfl (by decide) ?_
            refine aw_iinc dX6_nextConvoy_73 rfl (by decide) ?_
            refine aw_goto (tgt := 5) dX6_nextConvoy_76 (by decide) ?_
            refine AW.lss (ih (n + 1) (by omega)) (And.intro rfl (And.intro rfl (And.intro (congrArg Sum.inl ?_) (And.intro rfl trivial))))
            show (if _ then _ else _) = _
            first | rw [if_pos (by omega)] | rw [if_neg (by omega)]
          · refine aw_iload_n dX6_nextConvoy_67 rfl rfl ?_
            refine aw_goto (tgt := 72) dX6_nextConvoy_68 (by decide) ?_
            refine aw_istore_n dX6_nextConvoy_72 rfl (by decide) ?_
            refine aw_iinc dX6_nextConvoy_73 rfl (by decide) ?_
            refine aw_goto (tgt := 5) dX6_nextConvoy_76 (by decide) ?_
            refine AW.lss (ih (n + 1) (by omega)) (And.intro rfl (And.intro rfl (And.intro (congrArg Sum.inl ?_) (And.intro rfl trivial))))
            show (if _ then _ else _) = _
            first | rw [if_pos (by omega)] | rw [if_neg (by omega)]
set_option maxRecDepth 100000 in
set_option maxHeartbeats 4000000 in
theorem c_X6_nextConvoy {w : Int} (hB : BB S) (hw : Rg w) : CT l D cA A ad yX6_nextConvoy cX6_nextConvoy 5 (some .int) rm_X6_nextConvoy [.inr (some (50, 0)), .inl w] lvR (VR S) sz (PR (some (.inl (nx S w (S 24 0).toNat))) (S) sz) := by
  refine CT.of2 [some (.inr (some (50, 0))), some (.inl w), none, none, none] (by decide) (Nat.le_of_ble_eq_true rfl) rfl ?_
  refine aw_bipush dX6_nextConvoy_0 (by decide) ?_
  refine aw_istore_n dX6_nextConvoy_2 rfl (by decide) ?_
  refine aw_iconst dX6_nextConvoy_3 ?_
  refine aw_istore_n dX6_nextConvoy_4 rfl (by decide) ?_
  exact lp_X6_nextConvoy hB hw (S 24 0).toNat 0 (by omega)
set_option maxRecDepth 100000 in
set_option maxHeartbeats 4000000 in
theorem lp_X6_isAground {sec : Int} (hB : BB S) (hw : Rg sec) : ∀ (f n : Nat), n + f = (S 8 0).toNat → AW l D cA A ad yX6_isAground cX6_isAground 4 (some .boolean) rm_X6_isAground (PR (some (.inl (b2i (isAgr S sec)))) (S) sz) 0 0 lvR (VR S) sz 4 [some (.inr (some (50, 0))), some (.inl sec), some (.inl (b2i (exB (agP S sec) n))), some (.inl (n : Int))] [] := by
  have hm := hB.m
  simp only [bsm] at hm
  intro f
  induction f with
  | zero =>
    intro n hn
    refine aw_iload_n dX6_isAground_4 rfl rfl ?_
    refine aw_aload_n dX6_isAground_5 rfl rfl ?_
    refine rr_getS dX6_isAground_6 flX6_119 rfl (by decide) (fun _ => rfl) ?_
    refine aw_icmp_ge (tgt := 47) dX6_isAground_9 (by decide) (by omega) (by omega) (fun c_9 => ?_) (fun c_9 => absurd c_9 (by omega))
    refine aw_iload_n dX6_isAground_47 rfl rfl ?_
    refine aw_zret dX6_isAground_48 rfl (b2i_01 _) (Nat.zero_le _) (Nat.zero_le _) ?_
    rw [isAgr, show (S 8 0).toNat = n by omega]
    exact ⟨rfl, rfl, rfl, rfl⟩
  | succ f ih =>
    intro n hn
    have hx := b2i_rg (exB (agP S sec) n)
    have hs := hB.sh (s := (n : Int)) (by omega) (by omega)
    simp only [bsh] at hs
    refine aw_iload_n dX6_isAground_4 rfl rfl ?_
    refine aw_aload_n dX6_isAground_5 rfl rfl ?_
    refine rr_getS dX6_isAground_6 flX6_119 rfl (by decide) (fun _ => rfl) ?_
    refine aw_icmp_ge (tgt := 47) dX6_isAground_9 (by decide) (by omega) (by omega) (fun c_9 => absurd c_9 (by omega)) (fun c_9 => ?_)
    refine aw_iload_n dX6_isAground_12 rfl rfl ?_
    refine aw_if_ne (tgt := 35) dX6_isAground_13 (by decide) (by omega) (fun c_13 => ?_) (fun c_13 => ?_)
    · refine aw_iconst dX6_isAground_35 ?_
      refine aw_goto (tgt := 40) dX6_isAground_36 (by decide) ?_
      refine aw_istore_n dX6_isAground_40 rfl (by decide) ?_
      refine aw_iinc dX6_isAground_41 rfl (by decide) ?_
      refine aw_goto (tgt := 4) dX6_isAground_44 (by decide) ?_
      refine AW.lss (ih (n + 1) (by omega)) (And.intro rfl (And.intro rfl (And.intro (congrArg Sum.inl ?_) (And.intro rfl trivial))))
      first
        | (rw [exB_t (Or.inl (b2i_pos c_13))]; rfl)
        | (rw [exB_t (Or.inr (by simp only [agP, decide_eq_true_eq]; omega))]; rfl)
        | (rw [exB_f (b2i_zero c_13) (by simp only [agP, decide_eq_false_iff_not]; omega)]; rfl)
    · refine aw_aload_n dX6_isAground_16 rfl rfl ?_
      refine rr_getA dX6_isAground_17 flX6_48 rfl (by decide) ?_
      refine aw_iload_n dX6_isAground_20 rfl rfl ?_
      refine rr_iald (n := 30) dX6_isAground_21 rfl rfl rfl (by omega) (by omega) (fun _ => rfl) ?_
      refine aw_iload_n dX6_isAground_22 rfl rfl ?_
      refine aw_icmp_ne (tgt := 39) dX6_isAground_23 (by decide) (by omega) (by omega) (fun c_23 => ?_) (fun c_23 => ?_)
      · refine aw_iconst dX6_isAground_39 ?_
        refine aw_istore_n dX6_isAground_40 rfl (by decide) ?_
        refine aw_iinc dX6_isAground_41 rfl (by decide) ?_
        refine aw_goto (tgt := 4) dX6_isAground_44 (by decide) ?_
        refine AW.lss (ih (n + 1) (by omega)) (And.intro rfl (And.intro rfl (And.intro (congrArg Sum.inl ?_) (And.intro rfl trivial))))
        first
          | (rw [exB_t (Or.inl (b2i_pos c_13))]; rfl)
          | (rw [exB_t (Or.inr (by simp only [agP, decide_eq_true_eq]; omega))]; rfl)
          | (rw [exB_f (b2i_zero c_13) (by simp only [agP, decide_eq_false_iff_not]; omega)]; rfl)
      · refine aw_aload_n dX6_isAground_26 rfl rfl ?_
        refine rr_getA dX6_isAground_27 flX6_66 rfl (by decide) ?_
        refine aw_iload_n dX6_isAground_30 rfl rfl ?_
        refine rr_iald (n := 30) dX6_isAground_31 rfl rfl rfl (by omega) (by omega) (fun _ => rfl) ?_
        refine aw_if_le (tgt := 39) dX6_isAground_32 (by decide) (by omega) (fun c_32 => ?_) (fun c_32 => ?_)
        · refine aw_iconst dX6_isAground_39 ?_
          refine aw_istore_n dX6_isAground_40 rfl (by decide) ?_
          refine aw_iinc dX6_isAground_41 rfl (by decide) ?_
          refine aw_goto (tgt := 4) dX6_isAground_44 (by decide) ?_
          refine AW.lss (ih (n + 1) (by omega)) (And.intro rfl (And.intro rfl (And.intro (congrArg Sum.inl ?_) (And.intro rfl trivial))))
          first
            | (rw [exB_t (Or.inl (b2i_pos c_13))]; rfl)
            | (rw [exB_t (Or.inr (by simp only [agP, decide_eq_true_eq]; omega))]; rfl)
            | (rw [exB_f (b2i_zero c_13) (by simp only [agP, decide_eq_false_iff_not]; omega)]; rfl)
        · refine aw_iconst dX6_isAground_35 ?_
          refine aw_goto (tgt := 40) dX6_isAground_36 (by decide) ?_
          refine aw_istore_n dX6_isAground_40 rfl (by decide) ?_
          refine aw_iinc dX6_isAground_41 rfl (by decide) ?_
          refine aw_goto (tgt := 4) dX6_isAground_44 (by decide) ?_
          refine AW.lss (ih (n + 1) (by omega)) (And.intro rfl (And.intro rfl (And.intro (congrArg Sum.inl ?_) (And.intro rfl trivial))))
          first
            | (rw [exB_t (Or.inl (b2i_pos c_13))]; rfl)
            | (rw [exB_t (Or.inr (by simp only [agP, decide_eq_true_eq]; omega))]; rfl)
            | (rw [exB_f (b2i_zero c_13) (by simp only [agP, decide_eq_false_iff_not]; omega)]; rfl)
set_option maxRecDepth 100000 in
set_option maxHeartbeats 4000000 in
theorem c_X6_isAground {sec : Int} (hB : BB S) (hw : Rg sec) : CT l D cA A ad yX6_isAground cX6_isAground 4 (some .boolean) rm_X6_isAground [.inr (some (50, 0)), .inl sec] lvR (VR S) sz (PR (some (.inl (b2i (isAgr S sec)))) (S) sz) := by
  refine CT.of2 [some (.inr (some (50, 0))), some (.inl sec), none, none] (by decide) (Nat.le_of_ble_eq_true rfl) rfl ?_
  refine aw_iconst dX6_isAground_0 ?_
  refine aw_istore_n dX6_isAground_1 rfl (by decide) ?_
  refine aw_iconst dX6_isAground_2 ?_
  refine aw_istore_n dX6_isAground_3 rfl (by decide) ?_
  exact lp_X6_isAground hB hw (S 8 0).toNat 0 (by omega)
set_option maxRecDepth 100000 in
set_option maxHeartbeats 4000000 in
theorem lp2_X6_isOncoming {sec : Nat} {o : Int} (hB : BB S) (ho : o = 0 ∨ o = 1) : ∀ (f k : Nat) (is : Bool), k + f = 8 → (is || onUp S o k f) = isOnc S sec o → AW l D cA A ad yX6_isOncoming cX6_isOncoming 6 (some .boolean) rm_X6_isOncoming (PR (some (.inl (b2i (isOnc S sec o)))) (S) sz) 0 0 lvR (VR S) sz 32 [some (.inr (some (50, 0))), some (.inl (sec : Int)), some (.inl o), some (.inl (b2i is)), none, some (.inl (k : Int))] [] := by
  intro f
  induction f with
  | zero =>
    intro k is hk hi
    have hx := b2i_rg is
    refine aw_iload dX6_isOncoming_32 rfl ?_
    refine aw_bipush dX6_isOncoming_34 (by decide) ?_
    refine aw_icmp_ge (tgt := 79) dX6_isOncoming_36 (by decide) (by omega) (by omega) (fun c_36 => ?_) (fun c_36 => absurd c_36 (by omega))
    refine aw_iload_n dX6_isOncoming_79 rfl rfl ?_
    refine aw_zret dX6_isOncoming_80 rfl (b2i_01 _) (Nat.zero_le _) (Nat.zero_le _) ?_
    rw [← hi]
    simp only [onUp, Bool.or_false]
    exact ⟨rfl, rfl, rfl, rfl⟩
  | succ f ih =>
    intro k is hk hi
    have hx := b2i_rg is
    have hc := hB.sc (i := (k : Int)) (by omega) (by omega)
    simp only [bsc] at hc
    have hM := hB.iM (a := 2 * (k : Int) + o) (by omega) (by omega)
    simp only [onUp] at hi
    refine aw_iload dX6_isOncoming_32 rfl ?_
    refine aw_bipush dX6_isOncoming_34 (by decide) ?_
    refine aw_icmp_ge (tgt := 79) dX6_isOncoming_36 (by decide) (by omega) (by omega) (fun c_36 => absurd c_36 (by omega)) (fun c_36 => ?_)
    refine aw_aload_n dX6_isOncoming_39 rfl rfl ?_
    refine rr_getA dX6_isOncoming_40 flX6_20 rfl (by decide) ?_
    refine aw_iload dX6_isOncoming_43 rfl ?_
    refine rr_zald (n := 8) dX6_isOncoming_45 rfl rfl rfl (by omega) (by omega) (fun _ => rfl) ?_
    refine aw_if_ne (tgt := 79) dX6_isOncoming_46 (by decide) (by omega) (fun c_46 => ?_) (fun c_46 => ?_)
    · refine aw_iload_n dX6_isOncoming_79 rfl rfl ?_
      refine aw_zret dX6_isOncoming_80 rfl (b2i_01 _) (Nat.zero_le _) (Nat.zero_le _) ?_
      rw [if_neg c_46] at hi
      rw [← hi]
      simp only [Bool.or_false]
      exact ⟨rfl, rfl, rfl, rfl⟩
    · refine aw_iload_n dX6_isOncoming_49 rfl rfl ?_
      refine aw_if_ne (tgt := 67) dX6_isOncoming_50 (by decide) (by omega) (fun c_50 => ?_) (fun c_50 => ?_)
      · refine aw_iconst dX6_isOncoming_67 ?_
        refine aw_goto (tgt := 72) dX6_isOncoming_68 (by decide) ?_
        refine aw_istore_n dX6_isOncoming_72 rfl (by decide) ?_
        refine aw_iinc dX6_isOncoming_73 rfl (by decide) ?_
        refine aw_goto (tgt := 32) dX6_isOncoming_76 (by decide) ?_
        first
          | (refine AW.lss (L0 := [some (.inr (some (50, 0))), some (.inl (sec : Int)), some (.inl o), some (.inl (b2i true)), none, some (.inl ((k + 1 : Nat) : Int))]) (ih (k + 1) true (by omega) ?_) (And.intro rfl (And.intro rfl (And.intro rfl (And.intro rfl (And.intro rfl trivial)))))
             rw [if_pos c_46] at hi
             first
               | (rw [b2i_pos c_50] at hi; simpa using hi)
               | (rw [decide_eq_true (show (0 : Int) < S 33 (2 * (k : Int) + o) by omega)] at hi; simpa using hi))
          | (refine AW.lss (L0 := [some (.inr (some (50, 0))), some (.inl (sec : Int)), some (.inl o), some (.inl (b2i false)), none, some (.inl ((k + 1 : Nat) : Int))]) (ih (k + 1) false (by omega) ?_) (And.intro rfl (And.intro rfl (And.intro rfl (And.intro rfl (And.intro rfl trivial)))))
             rw [if_pos c_46, b2i_zero c_50, decide_eq_false (show ¬ (0 : Int) < S 33 (2 * (k : Int) + o) by omega)] at hi
             simpa using hi)
      · refine aw_aload_n dX6_isOncoming_53 rfl rfl ?_
        refine rr_getA dX6_isOncoming_54 flX6_99 rfl (by decide) ?_
        refine aw_iconst dX6_isOncoming_57 ?_
        refine aw_iload dX6_isOncoming_58 rfl ?_
        refine aw_imul dX6_isOncoming_60 ?_
        refine aw_iload_n dX6_isOncoming_61 rfl rfl ?_
        refine aw_iadd dX6_isOncoming_62 ?_
        refine rr_iald (n := 16) dX6_isOncoming_63 rfl rfl rfl (by omega) (by omega) (fun _ => rfl) ?_
        refine aw_if_le (tgt := 71) dX6_isOncoming_64 (by decide) (by omega) (fun c_64 => ?_) (fun c_64 => ?_)
        · refine aw_iconst dX6_isOncoming_71 ?_
          refine aw_istore_n dX6_isOncoming_72 rfl (by decide) ?_
          refine aw_iinc dX6_isOncoming_73 rfl (by decide) ?_
          refine aw_goto (tgt := 32) dX6_isOncoming_76 (by decide) ?_
          first
            | (refine AW.lss (L0 := [some (.inr (some (50, 0))), some (.inl (sec : Int)), some (.inl o), some (.inl (b2i true)), none, some (.inl ((k + 1 : Nat) : Int))]) (ih (k + 1) true (by omega) ?_) (And.intro rfl (And.intro rfl (And.intro rfl (And.intro rfl (And.intro rfl trivial)))))
               rw [if_pos c_46] at hi
               first
                 | (rw [b2i_pos c_50] at hi; simpa using hi)
                 | (rw [decide_eq_true (show (0 : Int) < S 33 (2 * (k : Int) + o) by omega)] at hi; simpa using hi))
            | (refine AW.lss (L0 := [some (.inr (some (50, 0))), some (.inl (sec : Int)), some (.inl o), some (.inl (b2i false)), none, some (.inl ((k + 1 : Nat) : Int))]) (ih (k + 1) false (by omega) ?_) (And.intro rfl (And.intro rfl (And.intro rfl (And.intro rfl (And.intro rfl trivial)))))
               rw [if_pos c_46, b2i_zero c_50, decide_eq_false (show ¬ (0 : Int) < S 33 (2 * (k : Int) + o) by omega)] at hi
               simpa using hi)
        · refine aw_iconst dX6_isOncoming_67 ?_
          refine aw_goto (tgt := 72) dX6_isOncoming_68 (by decide) ?_
          refine aw_istore_n dX6_isOncoming_72 rfl (by decide) ?_
          refine aw_iinc dX6_isOncoming_73 rfl (by decide) ?_
          refine aw_goto (tgt := 32) dX6_isOncoming_76 (by decide) ?_
          first
            | (refine AW.lss (L0 := [some (.inr (some (50, 0))), some (.inl (sec : Int)), some (.inl o), some (.inl (b2i true)), none, some (.inl ((k + 1 : Nat) : Int))]) (ih (k + 1) true (by omega) ?_) (And.intro rfl (And.intro rfl (And.intro rfl (And.intro rfl (And.intro rfl trivial)))))
               rw [if_pos c_46] at hi
               first
                 | (rw [b2i_pos c_50] at hi; simpa using hi)
                 | (rw [decide_eq_true (show (0 : Int) < S 33 (2 * (k : Int) + o) by omega)] at hi; simpa using hi))
            | (refine AW.lss (L0 := [some (.inr (some (50, 0))), some (.inl (sec : Int)), some (.inl o), some (.inl (b2i false)), none, some (.inl ((k + 1 : Nat) : Int))]) (ih (k + 1) false (by omega) ?_) (And.intro rfl (And.intro rfl (And.intro rfl (And.intro rfl (And.intro rfl trivial)))))
               rw [if_pos c_46, b2i_zero c_50, decide_eq_false (show ¬ (0 : Int) < S 33 (2 * (k : Int) + o) by omega)] at hi
               simpa using hi)
set_option maxRecDepth 100000 in
set_option maxHeartbeats 4000000 in
theorem lp1_X6_isOncoming {sec : Nat} {o : Int} (hB : BB S) (hs : sec < 8) (ho : o = 0 ∨ o = 1) : ∀ (lo : Nat), lo ≤ sec → lowF S lo = lowF S sec → AW l D cA A ad yX6_isOncoming cX6_isOncoming 6 (some .boolean) rm_X6_isOncoming (PR (some (.inl (b2i (isOnc S sec o)))) (S) sz) 0 0 lvR (VR S) sz 5 [some (.inr (some (50, 0))), some (.inl (sec : Int)), some (.inl o), some (.inl 0), some (.inl (lo : Int)), none] [] := by
  intro lo
  induction lo with
  | zero =>
    intro hl he
    refine aw_iload dX6_isOncoming_5 rfl ?_
    refine aw_if_le (tgt := 28) dX6_isOncoming_7 (by decide) (by omega) (fun c_7 => ?_) (fun c_7 => absurd c_7 (by omega))
    refine aw_iload dX6_isOncoming_28 rfl ?_
    refine aw_istore dX6_isOncoming_30 (by decide) ?_
    refine AW.lss (L0 := [some (.inr (some (50, 0))), some (.inl (sec : Int)), some (.inl o), some (.inl (b2i false)), none, some (.inl ((0 : Nat) : Int))]) (lp2_X6_isOncoming hB ho (8 - (0)) (0) false (by omega) ?_) (And.intro rfl (And.intro rfl (And.intro rfl (And.intro rfl (And.intro rfl trivial)))))
    rw [isOnc, ← he]
    simp [lowF]
  | succ lo ih =>
    intro hl he
    have hc := hB.sc (i := (lo : Int)) (by omega) (by omega)
    simp only [bsc] at hc
    have e1 : ((lo + 1 : Nat) : Int) - 1 = (lo : Int) := by omega
    refine aw_iload dX6_isOncoming_5 rfl ?_
    refine aw_if_le (tgt := 28) dX6_isOncoming_7 (by decide) (by omega) (fun c_7 => absurd c_7 (by omega)) (fun c_7 => ?_)
    refine aw_aload_n dX6_isOncoming_10 rfl rfl ?_
    refine rr_getA dX6_isOncoming_11 flX6_20 rfl (by decide) ?_
    refine aw_iload dX6_isOncoming_14 rfl ?_
    refine aw_iconst dX6_isOncoming_16 ?_
    refine aw_isub dX6_isOncoming_17 ?_
    rw [e1]
    refine rr_zald (n := 8) dX6_isOncoming_18 rfl rfl rfl (by omega) (by omega) (fun _ => rfl) ?_
    refine aw_if_ne (tgt := 28) dX6_isOncoming_19 (by decide) (by omega) (fun c_19 => ?_) (fun c_19 => ?_)
    · refine aw_iload dX6_isOncoming_28 rfl ?_
      refine aw_istore dX6_isOncoming_30 (by decide) ?_
      refine AW.lss (L0 := [some (.inr (some (50, 0))), some (.inl (sec : Int)), some (.inl o), some (.inl (b2i false)), none, some (.inl ((lo + 1 : Nat) : Int))]) (lp2_X6_isOncoming hB ho (8 - (lo + 1)) (lo + 1) false (by omega) ?_) (And.intro rfl (And.intro rfl (And.intro rfl (And.intro rfl (And.intro rfl trivial)))))
      rw [isOnc, ← he]
      simp only [lowF]
      rw [if_neg c_19]
      simp
    · refine aw_iinc dX6_isOncoming_22 rfl (by decide) ?_
      refine aw_goto (tgt := 5) dX6_isOncoming_25 (by decide) ?_
      refine AW.lss (ih (by omega) ?_) (And.intro rfl (And.intro rfl (And.intro rfl (And.intro rfl (And.intro (congrArg Sum.inl (show (lo : Int) = ((lo + 1 : Nat) : Int) + -1 by omega)) trivial)))))
      rw [← he]
      simp only [lowF]
      rw [if_pos c_19]
set_option maxRecDepth 100000 in
set_option maxHeartbeats 4000000 in
theorem c_X6_isOncoming {sec : Nat} {o : Int} (hB : BB S) (hs : sec < 8) (ho : o = 0 ∨ o = 1) : CT l D cA A ad yX6_isOncoming cX6_isOncoming 6 (some .boolean) rm_X6_isOncoming [.inr (some (50, 0)), .inl ((sec : Int)), .inl o] lvR (VR S) sz (PR (some (.inl (b2i (isOnc S sec o)))) (S) sz) := by
  refine CT.of2 [some (.inr (some (50, 0))), some (.inl ((sec : Int))), some (.inl o), none, none, none] (by decide) (Nat.le_of_ble_eq_true rfl) rfl ?_
  refine aw_iconst dX6_isOncoming_0 ?_
  refine aw_istore_n dX6_isOncoming_1 rfl (by decide) ?_
  refine aw_iload_n dX6_isOncoming_2 rfl rfl ?_
  refine aw_istore dX6_isOncoming_3 (by decide) ?_
  exact lp1_X6_isOncoming hB hs ho sec (Nat.le_refl _) rfl
set_option maxRecDepth 100000 in
set_option maxHeartbeats 4000000 in
theorem c2_X6_cause {s : Int} {sec : Nat} (hB : BB S) (hs : 0 ≤ s ∧ s < 30) (hs2 : sec < 8) : AW l D cA A ad yX6_cause cX6_cause 6 (some .int) rm_X6_cause (PR (some (.inl (cause S s sec))) (S) sz) 0 0 lvR (VR S) sz 53 [some (.inr (some (50, 0))), some (.inl s), some (.inl (sec : Int)), some (.inl (2 * (sec : Int) + S 9 s)), some (.inl (hr S)), some (.inl (deep S sec))] [] := by
  have hm := hB.m
  simp only [bsm] at hm
  have hsh := hB.sh (s := s) (by omega) (by omega)
  simp only [bsh] at hsh
  have hsc := hB.sc (i := (sec : Int)) (by omega) (by omega)
  simp only [bsc] at hsc
  have hhr : 0 ≤ hr S ∧ hr S < 24 := by simp only [hr]; omega
  have htw := hB.tw (i := hr S) (by omega) (by omega)
  have hdp : 0 ≤ deep S sec ∧ deep S sec ≤ 100 := by simp only [deep]; split <;> omega
  have hiM := hB.iM (a := 2 * (sec : Int) + S 9 s) (by omega) (by omega)
  have hag := b2i_rg (isAgr S sec)
  have hon := b2i_rg (isOnc S sec (1 - S 9 s))
  refine aw_aload_n dX6_cause_53 rfl rfl ?_
  refine aw_iload_n dX6_cause_54 rfl rfl ?_
  refine aw_callV (c_X6_isAground hB (by omega)) mv_X6_isAground mlX6_133 dX6_cause_55 rfl rfl (by decide) rfl (Nat.le_of_ble_eq_true rfl) rfl ?_
  rintro _ _ _ _ ⟨rfl, rfl, rfl, rfl⟩
  refine aw_if_eq (tgt := 63) dX6_cause_58 (by decide) (by omega) (fun c_58 => ?_) (fun c_58 => ?_)
  · have a1 : ¬ isAgr S sec = true := by rw [b2i_zero c_58]; decide
    refine aw_aload_n dX6_cause_63 rfl rfl ?_
    refine rr_getA dX6_cause_64 flX6_20 rfl (by decide) ?_
    refine aw_iload_n dX6_cause_67 rfl rfl ?_
    refine rr_zald (n := 8) dX6_cause_68 rfl rfl rfl (by omega) (by omega) (fun _ => rfl) ?_
    refine aw_if_ne (tgt := 90) dX6_cause_69 (by decide) (by omega) (fun c_69 => ?_) (fun c_69 => ?_)
    · refine aw_aload_n dX6_cause_90 rfl rfl ?_
      refine rr_getA dX6_cause_91 flX6_99 rfl (by decide) ?_
      refine aw_iload_n dX6_cause_94 rfl rfl ?_
      refine rr_iald (n := 16) dX6_cause_95 rfl rfl rfl (by omega) (by omega) (fun _ => rfl) ?_
      refine aw_iconst dX6_cause_96 ?_
      refine aw_icmp_ne (tgt := 102) dX6_cause_97 (by decide) (by omega) (by omega) (fun c_97 => ?_) (fun c_97 => ?_)
      · refine aw_aload_n dX6_cause_102 rfl rfl ?_
        refine rr_getS dX6_cause_103 flX6_112 rfl (by decide) (fun _ => rfl) ?_
        refine aw_aload_n dX6_cause_106 rfl rfl ?_
        refine rr_getA dX6_cause_107 flX6_105 rfl (by decide) ?_
        refine aw_iload_n dX6_cause_110 rfl rfl ?_
        refine rr_iald (n := 16) dX6_cause_111 rfl rfl rfl (by omega) (by omega) (fun _ => rfl) ?_
        refine aw_isub dX6_cause_112 ?_
        refine aw_aload_n dX6_cause_113 rfl rfl ?_
        refine rr_getS dX6_cause_114 flX6_7 rfl (by decide) (fun _ => rfl) ?_
        refine aw_icmp_ge (tgt := 122) dX6_cause_117 (by decide) (by omega) (by omega) (fun c_117 => ?_) (fun c_117 => ?_)
        · refine aw_aload_n dX6_cause_122 rfl rfl ?_
          refine rr_getA dX6_cause_123 flX6_39 rfl (by decide) ?_
          refine aw_iload_n dX6_cause_126 rfl rfl ?_
          refine rr_iald (n := 30) dX6_cause_127 rfl rfl rfl (by omega) (by omega) (fun _ => rfl) ?_
          refine aw_iload dX6_cause_128 rfl ?_
          refine aw_icmp_le (tgt := 135) dX6_cause_130 (by decide) (by omega) (by omega) (fun c_130 => ?_) (fun c_130 => ?_)
          · refine aw_aload_n dX6_cause_135 rfl rfl ?_
            refine rr_getA dX6_cause_136 flX6_36 rfl (by decide) ?_
            refine aw_iload_n dX6_cause_139 rfl rfl ?_
            refine rr_zald (n := 30) dX6_cause_140 rfl rfl rfl (by omega) (by omega) (fun _ => rfl) ?_
            refine aw_if_eq (tgt := 179) dX6_cause_141 (by decide) (by omega) (fun c_141 => ?_) (fun c_141 => ?_)
            · refine aw_iconst dX6_cause_179 ?_
              refine aw_iret dX6_cause_180 rfl (Nat.zero_le _) (Nat.zero_le _) ?_
              have e5 : cause S s sec = if S 11 s ≠ 0 ∧ S 5 sec = 0 ∧ (S 7 (hr S) < 0 ∨ 6 < S 7 (hr S)) then 5 else -1 := by
                simp only [cause]
                rw [if_neg a1]
                first | rw [if_neg (fun h => absurd h.2 a2)] | rw [if_neg (fun h => absurd h.1 c_69)]
                rw [if_neg (by omega), if_neg (by omega), if_neg (by omega)]
              rw [e5]
              first | (rw [if_pos (by omega)]; exact ⟨rfl, rfl, rfl, rfl⟩) | (rw [if_neg (by omega)]; exact ⟨rfl, rfl, rfl, rfl⟩)
            · refine aw_aload_n dX6_cause_144 rfl rfl ?_
              refine rr_getA dX6_cause_145 flX6_20 rfl (by decide) ?_
              refine aw_iload_n dX6_cause_148 rfl rfl ?_
              refine rr_zald (n := 8) dX6_cause_149 rfl rfl rfl (by omega) (by omega) (fun _ => rfl) ?_
              refine aw_if_ne (tgt := 179) dX6_cause_150 (by decide) (by omega) (fun c_150 => ?_) (fun c_150 => ?_)
              · refine aw_iconst dX6_cause_179 ?_
                refine aw_iret dX6_cause_180 rfl (Nat.zero_le _) (Nat.zero_le _) ?_
                have e5 : cause S s sec = if S 11 s ≠ 0 ∧ S 5 sec = 0 ∧ (S 7 (hr S) < 0 ∨ 6 < S 7 (hr S)) then 5 else -1 := by
                  simp only [cause]
                  rw [if_neg a1]
                  first | rw [if_neg (fun h => absurd h.2 a2)] | rw [if_neg (fun h => absurd h.1 c_69)]
                  rw [if_neg (by omega), if_neg (by omega), if_neg (by omega)]
                rw [e5]
                first | (rw [if_pos (by omega)]; exact ⟨rfl, rfl, rfl, rfl⟩) | (rw [if_neg (by omega)]; exact ⟨rfl, rfl, rfl, rfl⟩)
              · refine aw_aload_n dX6_cause_153 rfl rfl ?_
                refine rr_getA dX6_cause_154 flX6_27 rfl (by decide) ?_
                refine aw_iload dX6_cause_157 rfl ?_
                refine rr_iald (n := 24) dX6_cause_159 rfl rfl rfl (by omega) (by omega) (fun _ => rfl) ?_
                refine aw_if_lt (tgt := 175) dX6_cause_160 (by decide) (by omega) (fun c_160 => ?_) (fun c_160 => ?_)
                · refine aw_iconst dX6_cause_175 ?_
                  refine aw_goto (tgt := 180) dX6_cause_176 (by decide) ?_
                  refine aw_iret dX6_cause_180 rfl (Nat.zero_le _) (Nat.zero_le _) ?_
                  have e5 : cause S s sec = if S 11 s ≠ 0 ∧ S 5 sec = 0 ∧ (S 7 (hr S) < 0 ∨ 6 < S 7 (hr S)) then 5 else -1 := by
                    simp only [cause]
                    rw [if_neg a1]
                    first | rw [if_neg (fun h => absurd h.2 a2)] | rw [if_neg (fun h => absurd h.1 c_69)]
                    rw [if_neg (by omega), if_neg (by omega), if_neg (by omega)]
                  rw [e5]
                  first | (rw [if_pos (by omega)]; exact ⟨rfl, rfl, rfl, rfl⟩) | (rw [if_neg (by omega)]; exact ⟨rfl, rfl, rfl, rfl⟩)
                · refine aw_aload_n dX6_cause_163 rfl rfl ?_
                  refine rr_getA dX6_cause_164 flX6_27 rfl (by decide) ?_
                  refine aw_iload dX6_cause_167 rfl ?_
                  refine rr_iald (n := 24) dX6_cause_169 rfl rfl rfl (by omega) (by omega) (fun _ => rfl) ?_
                  refine aw_bipush dX6_cause_170 (by decide) ?_
                  refine aw_icmp_le (tgt := 179) dX6_cause_172 (by decide) (by omega) (by omega) (fun c_172 => ?_) (fun c_172 => ?_)
                  · refine aw_iconst dX6_cause_179 ?_
                    refine aw_iret dX6_cause_180 rfl (Nat.zero_le _) (Nat.zero_le _) ?_
                    have e5 : cause S s sec = if S 11 s ≠ 0 ∧ S 5 sec = 0 ∧ (S 7 (hr S) < 0 ∨ 6 < S 7 (hr S)) then 5 else -1 := by
                      simp only [cause]
                      rw [if_neg a1]
                      first | rw [if_neg (fun h => absurd h.2 a2)] | rw [if_neg (fun h => absurd h.1 c_69)]
                      rw [if_neg (by omega), if_neg (by omega), if_neg (by omega)]
                    rw [e5]
                    first | (rw [if_pos (by omega)]; exact ⟨rfl, rfl, rfl, rfl⟩) | (rw [if_neg (by omega)]; exact ⟨rfl, rfl, rfl, rfl⟩)
                  · refine aw_iconst dX6_cause_175 ?_
                    refine aw_goto (tgt := 180) dX6_cause_176 (by decide) ?_
                    refine aw_iret dX6_cause_180 rfl (Nat.zero_le _) (Nat.zero_le _) ?_
                    have e5 : cause S s sec = if S 11 s ≠ 0 ∧ S 5 sec = 0 ∧ (S 7 (hr S) < 0 ∨ 6 < S 7 (hr S)) then 5 else -1 := by
                      simp only [cause]
                      rw [if_neg a1]
                      first | rw [if_neg (fun h => absurd h.2 a2)] | rw [if_neg (fun h => absurd h.1 c_69)]
                      rw [if_neg (by omega), if_neg (by omega), if_neg (by omega)]
                    rw [e5]
                    first | (rw [if_pos (by omega)]; exact ⟨rfl, rfl, rfl, rfl⟩) | (rw [if_neg (by omega)]; exact ⟨rfl, rfl, rfl, rfl⟩)
          · refine aw_iconst dX6_cause_133 ?_
            refine aw_iret dX6_cause_134 rfl (Nat.zero_le _) (Nat.zero_le _) ?_
            have e : cause S s sec = 4 := by
              simp only [cause]
              rw [if_neg a1]
              first | rw [if_neg (fun h => absurd h.2 a2)] | rw [if_neg (fun h => absurd h.1 c_69)]
              repeat (first | rw [if_pos (by omega)] | rw [if_neg (by omega)])
            rw [e]
            exact ⟨rfl, rfl, rfl, rfl⟩
        · refine aw_iconst dX6_cause_120 ?_
          refine aw_iret dX6_cause_121 rfl (Nat.zero_le _) (Nat.zero_le _) ?_
          have e : cause S s sec = 3 := by
            simp only [cause]
            rw [if_neg a1]
            first | rw [if_neg (fun h => absurd h.2 a2)] | rw [if_neg (fun h => absurd h.1 c_69)]
            repeat (first | rw [if_pos (by omega)] | rw [if_neg (by omega)])
          rw [e]
          exact ⟨rfl, rfl, rfl, rfl⟩
      · refine aw_iconst dX6_cause_100 ?_
        refine aw_iret dX6_cause_101 rfl (Nat.zero_le _) (Nat.zero_le _) ?_
        have e : cause S s sec = 2 := by
          simp only [cause]
          rw [if_neg a1]
          first | rw [if_neg (fun h => absurd h.2 a2)] | rw [if_neg (fun h => absurd h.1 c_69)]
          repeat (first | rw [if_pos (by omega)] | rw [if_neg (by omega)])
        rw [e]
        exact ⟨rfl, rfl, rfl, rfl⟩
    · refine aw_aload_n dX6_cause_72 rfl rfl ?_
      refine aw_iload_n dX6_cause_73 rfl rfl ?_
      refine aw_iconst dX6_cause_74 ?_
      refine aw_aload_n dX6_cause_75 rfl rfl ?_
      refine rr_getA dX6_cause_76 flX6_30 rfl (by decide) ?_
      refine aw_iload_n dX6_cause_79 rfl rfl ?_
      refine rr_iald (n := 30) dX6_cause_80 rfl rfl rfl (by omega) (by omega) (fun _ => rfl) ?_
      refine aw_isub dX6_cause_81 ?_
      refine aw_callV (c_X6_isOncoming hB hs2 (by omega)) mv_X6_isOncoming mlX6_137 dX6_cause_82 rfl rfl (by decide) rfl (Nat.le_of_ble_eq_true rfl) rfl ?_
      rintro _ _ _ _ ⟨rfl, rfl, rfl, rfl⟩
      refine aw_if_eq (tgt := 90) dX6_cause_85 (by decide) (by omega) (fun c_85 => ?_) (fun c_85 => ?_)
      · have a2 : ¬ isOnc S sec (1 - S 9 s) = true := by rw [b2i_zero c_85]; decide
        refine aw_aload_n dX6_cause_90 rfl rfl ?_
        refine rr_getA dX6_cause_91 flX6_99 rfl (by decide) ?_
        refine aw_iload_n dX6_cause_94 rfl rfl ?_
        refine rr_iald (n := 16) dX6_cause_95 rfl rfl rfl (by omega) (by omega) (fun _ => rfl) ?_
        refine aw_iconst dX6_cause_96 ?_
        refine aw_icmp_ne (tgt := 102) dX6_cause_97 (by decide) (by omega) (by omega) (fun c_97 => ?_) (fun c_97 => ?_)
        · refine aw_aload_n dX6_cause_102 rfl rfl ?_
          refine rr_getS dX6_cause_103 flX6_112 rfl (by decide) (fun _ => rfl) ?_
          refine aw_aload_n dX6_cause_106 rfl rfl ?_
          refine rr_getA dX6_cause_107 flX6_105 rfl (by decide) ?_
          refine aw_iload_n dX6_cause_110 rfl rfl ?_
          refine rr_iald (n := 16) dX6_cause_111 rfl rfl rfl (by omega) (by omega) (fun _ => rfl) ?_
          refine aw_isub dX6_cause_112 ?_
          refine aw_aload_n dX6_cause_113 rfl rfl ?_
          refine rr_getS dX6_cause_114 flX6_7 rfl (by decide) (fun _ => rfl) ?_
          refine aw_icmp_ge (tgt := 122) dX6_cause_117 (by decide) (by omega) (by omega) (fun c_117 => ?_) (fun c_117 => ?_)
          · refine aw_aload_n dX6_cause_122 rfl rfl ?_
            refine rr_getA dX6_cause_123 flX6_39 rfl (by decide) ?_
            refine aw_iload_n dX6_cause_126 rfl rfl ?_
            refine rr_iald (n := 30) dX6_cause_127 rfl rfl rfl (by omega) (by omega) (fun _ => rfl) ?_
            refine aw_iload dX6_cause_128 rfl ?_
            refine aw_icmp_le (tgt := 135) dX6_cause_130 (by decide) (by omega) (by omega) (fun c_130 => ?_) (fun c_130 => ?_)
            · refine aw_aload_n dX6_cause_135 rfl rfl ?_
              refine rr_getA dX6_cause_136 flX6_36 rfl (by decide) ?_
              refine aw_iload_n dX6_cause_139 rfl rfl ?_
              refine rr_zald (n := 30) dX6_cause_140 rfl rfl rfl (by omega) (by omega) (fun _ => rfl) ?_
              refine aw_if_eq (tgt := 179) dX6_cause_141 (by decide) (by omega) (fun c_141 => ?_) (fun c_141 => ?_)
              · refine aw_iconst dX6_cause_179 ?_
                refine aw_iret dX6_cause_180 rfl (Nat.zero_le _) (Nat.zero_le _) ?_
                have e5 : cause S s sec = if S 11 s ≠ 0 ∧ S 5 sec = 0 ∧ (S 7 (hr S) < 0 ∨ 6 < S 7 (hr S)) then 5 else -1 := by
                  simp only [cause]
                  rw [if_neg a1]
                  first | rw [if_neg (fun h => absurd h.2 a2)] | rw [if_neg (fun h => absurd h.1 c_69)]
                  rw [if_neg (by omega), if_neg (by omega), if_neg (by omega)]
                rw [e5]
                first | (rw [if_pos (by omega)]; exact ⟨rfl, rfl, rfl, rfl⟩) | (rw [if_neg (by omega)]; exact ⟨rfl, rfl, rfl, rfl⟩)
              · refine aw_aload_n dX6_cause_144 rfl rfl ?_
                refine rr_getA dX6_cause_145 flX6_20 rfl (by decide) ?_
                refine aw_iload_n dX6_cause_148 rfl rfl ?_
                refine rr_zald (n := 8) dX6_cause_149 rfl rfl rfl (by omega) (by omega) (fun _ => rfl) ?_
                refine aw_if_ne (tgt := 179) dX6_cause_150 (by decide) (by omega) (fun c_150 => ?_) (fun c_150 => ?_)
                · refine aw_iconst dX6_cause_179 ?_
                  refine aw_iret dX6_cause_180 rfl (Nat.zero_le _) (Nat.zero_le _) ?_
                  have e5 : cause S s sec = if S 11 s ≠ 0 ∧ S 5 sec = 0 ∧ (S 7 (hr S) < 0 ∨ 6 < S 7 (hr S)) then 5 else -1 := by
                    simp only [cause]
                    rw [if_neg a1]
                    first | rw [if_neg (fun h => absurd h.2 a2)] | rw [if_neg (fun h => absurd h.1 c_69)]
                    rw [if_neg (by omega), if_neg (by omega), if_neg (by omega)]
                  rw [e5]
                  first | (rw [if_pos (by omega)]; exact ⟨rfl, rfl, rfl, rfl⟩) | (rw [if_neg (by omega)]; exact ⟨rfl, rfl, rfl, rfl⟩)
                · refine aw_aload_n dX6_cause_153 rfl rfl ?_
                  refine rr_getA dX6_cause_154 flX6_27 rfl (by decide) ?_
                  refine aw_iload dX6_cause_157 rfl ?_
                  refine rr_iald (n := 24) dX6_cause_159 rfl rfl rfl (by omega) (by omega) (fun _ => rfl) ?_
                  refine aw_if_lt (tgt := 175) dX6_cause_160 (by decide) (by omega) (fun c_160 => ?_) (fun c_160 => ?_)
                  · refine aw_iconst dX6_cause_175 ?_
                    refine aw_goto (tgt := 180) dX6_cause_176 (by decide) ?_
                    refine aw_iret dX6_cause_180 rfl (Nat.zero_le _) (Nat.zero_le _) ?_
                    have e5 : cause S s sec = if S 11 s ≠ 0 ∧ S 5 sec = 0 ∧ (S 7 (hr S) < 0 ∨ 6 < S 7 (hr S)) then 5 else -1 := by
                      simp only [cause]
                      rw [if_neg a1]
                      first | rw [if_neg (fun h => absurd h.2 a2)] | rw [if_neg (fun h => absurd h.1 c_69)]
                      rw [if_neg (by omega), if_neg (by omega), if_neg (by omega)]
                    rw [e5]
                    first | (rw [if_pos (by omega)]; exact ⟨rfl, rfl, rfl, rfl⟩) | (rw [if_neg (by omega)]; exact ⟨rfl, rfl, rfl, rfl⟩)
                  · refine aw_aload_n dX6_cause_163 rfl rfl ?_
                    refine rr_getA dX6_cause_164 flX6_27 rfl (by decide) ?_
                    refine aw_iload dX6_cause_167 rfl ?_
                    refine rr_iald (n := 24) dX6_cause_169 rfl rfl rfl (by omega) (by omega) (fun _ => rfl) ?_
                    refine aw_bipush dX6_cause_170 (by decide) ?_
                    refine aw_icmp_le (tgt := 179) dX6_cause_172 (by decide) (by omega) (by omega) (fun c_172 => ?_) (fun c_172 => ?_)
                    · refine aw_iconst dX6_cause_179 ?_
                      refine aw_iret dX6_cause_180 rfl (Nat.zero_le _) (Nat.zero_le _) ?_
                      have e5 : cause S s sec = if S 11 s ≠ 0 ∧ S 5 sec = 0 ∧ (S 7 (hr S) < 0 ∨ 6 < S 7 (hr S)) then 5 else -1 := by
                        simp only [cause]
                        rw [if_neg a1]
                        first | rw [if_neg (fun h => absurd h.2 a2)] | rw [if_neg (fun h => absurd h.1 c_69)]
                        rw [if_neg (by omega), if_neg (by omega), if_neg (by omega)]
                      rw [e5]
                      first | (rw [if_pos (by omega)]; exact ⟨rfl, rfl, rfl, rfl⟩) | (rw [if_neg (by omega)]; exact ⟨rfl, rfl, rfl, rfl⟩)
                    · refine aw_iconst dX6_cause_175 ?_
                      refine aw_goto (tgt := 180) dX6_cause_176 (by decide) ?_
                      refine aw_iret dX6_cause_180 rfl (Nat.zero_le _) (Nat.zero_le _) ?_
                      have e5 : cause S s sec = if S 11 s ≠ 0 ∧ S 5 sec = 0 ∧ (S 7 (hr S) < 0 ∨ 6 < S 7 (hr S)) then 5 else -1 := by
                        simp only [cause]
                        rw [if_neg a1]
                        first | rw [if_neg (fun h => absurd h.2 a2)] | rw [if_neg (fun h => absurd h.1 c_69)]
                        rw [if_neg (by omega), if_neg (by omega), if_neg (by omega)]
                      rw [e5]
                      first | (rw [if_pos (by omega)]; exact ⟨rfl, rfl, rfl, rfl⟩) | (rw [if_neg (by omega)]; exact ⟨rfl, rfl, rfl, rfl⟩)
            · refine aw_iconst dX6_cause_133 ?_
              refine aw_iret dX6_cause_134 rfl (Nat.zero_le _) (Nat.zero_le _) ?_
              have e : cause S s sec = 4 := by
                simp only [cause]
                rw [if_neg a1]
                first | rw [if_neg (fun h => absurd h.2 a2)] | rw [if_neg (fun h => absurd h.1 c_69)]
                repeat (first | rw [if_pos (by omega)] | rw [if_neg (by omega)])
              rw [e]
              exact ⟨rfl, rfl, rfl, rfl⟩
          · refine aw_iconst dX6_cause_120 ?_
            refine aw_iret dX6_cause_121 rfl (Nat.zero_le _) (Nat.zero_le _) ?_
            have e : cause S s sec = 3 := by
              simp only [cause]
              rw [if_neg a1]
              first | rw [if_neg (fun h => absurd h.2 a2)] | rw [if_neg (fun h => absurd h.1 c_69)]
              repeat (first | rw [if_pos (by omega)] | rw [if_neg (by omega)])
            rw [e]
            exact ⟨rfl, rfl, rfl, rfl⟩
        · refine aw_iconst dX6_cause_100 ?_
          refine aw_iret dX6_cause_101 rfl (Nat.zero_le _) (Nat.zero_le _) ?_
          have e : cause S s sec = 2 := by
            simp only [cause]
            rw [if_neg a1]
            first | rw [if_neg (fun h => absurd h.2 a2)] | rw [if_neg (fun h => absurd h.1 c_69)]
            repeat (first | rw [if_pos (by omega)] | rw [if_neg (by omega)])
          rw [e]
          exact ⟨rfl, rfl, rfl, rfl⟩
      · have a2 : isOnc S sec (1 - S 9 s) = true := b2i_pos c_85
        refine aw_iconst dX6_cause_88 ?_
        refine aw_iret dX6_cause_89 rfl (Nat.zero_le _) (Nat.zero_le _) ?_
        have e : cause S s sec = 1 := by
          simp only [cause]
          rw [if_neg a1]
          rw [if_pos ⟨by omega, a2⟩]
        rw [e]
        exact ⟨rfl, rfl, rfl, rfl⟩
  · have a1 : isAgr S sec = true := b2i_pos c_58
    refine aw_iconst dX6_cause_61 ?_
    refine aw_iret dX6_cause_62 rfl (Nat.zero_le _) (Nat.zero_le _) ?_
    have e : cause S s sec = 0 := by
      simp only [cause]
      rw [if_pos a1]
    rw [e]
    exact ⟨rfl, rfl, rfl, rfl⟩
set_option maxRecDepth 100000 in
set_option maxHeartbeats 4000000 in
theorem c_X6_cause {s : Int} {sec : Nat} (hB : BB S) (hs : 0 ≤ s ∧ s < 30) (hs2 : sec < 8) : CT l D cA A ad yX6_cause cX6_cause 6 (some .int) rm_X6_cause [.inr (some (50, 0)), .inl s, .inl ((sec : Int))] lvR (VR S) sz (PR (some (.inl (cause S s sec))) (S) sz) := by
  refine CT.of2 [some (.inr (some (50, 0))), some (.inl s), some (.inl ((sec : Int))), none, none, none] (by decide) (Nat.le_of_ble_eq_true rfl) rfl ?_
  have hm := hB.m
  simp only [bsm] at hm
  have hsh := hB.sh (s := s) (by omega) (by omega)
  simp only [bsh] at hsh
  have hsc := hB.sc (i := (sec : Int)) (by omega) (by omega)
  simp only [bsc] at hsc
  refine aw_iconst dX6_cause_0 ?_
  refine aw_iload_n dX6_cause_1 rfl rfl ?_
  refine aw_imul dX6_cause_2 ?_
  refine aw_aload_n dX6_cause_3 rfl rfl ?_
  refine rr_getA dX6_cause_4 flX6_30 rfl (by decide) ?_
  refine aw_iload_n dX6_cause_7 rfl rfl ?_
  refine rr_iald (n := 30) dX6_cause_8 rfl rfl rfl (by omega) (by omega) (fun _ => rfl) ?_
  refine aw_iadd dX6_cause_9 ?_
  refine aw_istore_n dX6_cause_10 rfl (by decide) ?_
  refine aw_aload_n dX6_cause_11 rfl rfl ?_
  refine rr_getS dX6_cause_12 flX6_112 rfl (by decide) (fun _ => rfl) ?_
  refine aw_bipush dX6_cause_15 (by decide) ?_
  refine aw_idiv dX6_cause_17 (by omega) (by omega) (by omega) (by omega) ?_
  refine aw_bipush dX6_cause_18 (by decide) ?_
  refine aw_irem dX6_cause_20 (by omega) (by omega) (by omega) (by omega) ?_
  refine aw_istore dX6_cause_21 (by decide) ?_
  refine aw_aload_n dX6_cause_23 rfl rfl ?_
  refine rr_getA dX6_cause_24 flX6_17 rfl (by decide) ?_
  refine aw_iload_n dX6_cause_27 rfl rfl ?_
  refine rr_iald (n := 8) dX6_cause_28 rfl rfl rfl (by omega) (by omega) (fun _ => rfl) ?_
  refine aw_iload_n dX6_cause_29 rfl rfl ?_
  refine aw_if_eq (tgt := 39) dX6_cause_30 (by decide) (by omega) (fun c_30 => ?_) (fun c_30 => ?_)
  · refine aw_aload_n dX6_cause_39 rfl rfl ?_
    refine rr_getA dX6_cause_40 flX6_24 rfl (by decide) ?_
    refine aw_iload dX6_cause_43 rfl ?_
    refine rr_iald (n := 24) dX6_cause_45 rfl rfl rfl (by omega) (by omega) (fun _ => rfl) ?_
    refine aw_goto (tgt := 50) dX6_cause_46 (by decide) ?_
    refine aw_iadd dX6_cause_50 ?_
    refine aw_istore dX6_cause_51 (by decide) ?_
    refine AW.lss (c2_X6_cause hB hs hs2) (And.intro rfl (And.intro rfl (And.intro rfl (And.intro rfl (And.intro rfl (And.intro (congrArg Sum.inl ?_) trivial))))))
    rw [deep]
    first | rw [if_pos (by omega)] | rw [if_neg (by omega)]
    try rfl
  · refine aw_iload_n dX6_cause_33 rfl rfl ?_
    refine aw_bipush dX6_cause_34 (by decide) ?_
    refine aw_icmp_ne (tgt := 49) dX6_cause_36 (by decide) (by omega) (by omega) (fun c_36 => ?_) (fun c_36 => ?_)
    · refine aw_iconst dX6_cause_49 ?_
      refine aw_iadd dX6_cause_50 ?_
      refine aw_istore dX6_cause_51 (by decide) ?_
      refine AW.lss (c2_X6_cause hB hs hs2) (And.intro rfl (And.intro rfl (And.intro rfl (And.intro rfl (And.intro rfl (And.intro (congrArg Sum.inl ?_) trivial))))))
      rw [deep]
      first | rw [if_pos (by omega)] | rw [if_neg (by omega)]
      try rfl
    · refine aw_aload_n dX6_cause_39 rfl rfl ?_
      refine rr_getA dX6_cause_40 flX6_24 rfl (by decide) ?_
      refine aw_iload dX6_cause_43 rfl ?_
      refine rr_iald (n := 24) dX6_cause_45 rfl rfl rfl (by omega) (by omega) (fun _ => rfl) ?_
      refine aw_goto (tgt := 50) dX6_cause_46 (by decide) ?_
      refine aw_iadd dX6_cause_50 ?_
      refine aw_istore dX6_cause_51 (by decide) ?_
      refine AW.lss (c2_X6_cause hB hs hs2) (And.intro rfl (And.intro rfl (And.intro rfl (And.intro rfl (And.intro rfl (And.intro (congrArg Sum.inl ?_) trivial))))))
      rw [deep]
      first | rw [if_pos (by omega)] | rw [if_neg (by omega)]
      try rfl
set_option maxRecDepth 100000 in
set_option maxHeartbeats 4000000 in
theorem c_X6_enters {s sec : Int} (hs : 0 ≤ s ∧ s < 30) (h9 : S 9 s = 0 ∨ S 9 s = 1) (h13 : S 13 s = 0 ∨ S 13 s = 1) (hs2 : 0 ≤ sec ∧ sec < 8) (hM : 0 ≤ S 33 (2 * sec + S 9 s) ∧ S 33 (2 * sec + S 9 s) ≤ 3) : CT l D cA A ad yX6_enters cX6_enters 4 none rm_X6_enters [.inr (some (50, 0)), .inl s, .inl sec] lvR (VR S) sz (PR none (ent S s sec) sz) := by
  refine CT.of2 [some (.inr (some (50, 0))), some (.inl s), some (.inl sec), none] (by decide) (Nat.le_of_ble_eq_true rfl) rfl ?_
  refine aw_iconst dX6_enters_0 ?_
  refine aw_iload_n dX6_enters_1 rfl rfl ?_
  refine aw_imul dX6_enters_2 ?_
  refine aw_aload_n dX6_enters_3 rfl rfl ?_
  refine rr_getA dX6_enters_4 flX6_30 rfl (by decide) ?_
  refine aw_iload_n dX6_enters_7 rfl rfl ?_
  refine rr_iald (n := 30) dX6_enters_8 rfl rfl rfl (by omega) (by omega) (fun _ => rfl) ?_
  refine aw_iadd dX6_enters_9 ?_
  refine aw_istore_n dX6_enters_10 rfl (by decide) ?_
  refine aw_aload_n dX6_enters_11 rfl rfl ?_
  refine rr_getA dX6_enters_12 flX6_102 rfl (by decide) ?_
  refine aw_bipush dX6_enters_15 (by decide) ?_
  refine aw_iload_n dX6_enters_17 rfl rfl ?_
  refine aw_imul dX6_enters_18 ?_
  refine aw_aload_n dX6_enters_19 rfl rfl ?_
  refine rr_getA dX6_enters_20 flX6_99 rfl (by decide) ?_
  refine aw_iload_n dX6_enters_23 rfl rfl ?_
  refine rr_iald (n := 16) dX6_enters_24 rfl rfl rfl (by omega) (by omega) (fun _ => rfl) ?_
  refine aw_iadd dX6_enters_25 ?_
  refine aw_iload_n dX6_enters_26 rfl rfl ?_
  refine rr_iast (n := 480) dX6_enters_27 rfl rfl rfl (by omega) (by omega) ?_
  refine aw_aload_n dX6_enters_28 rfl rfl ?_
  refine rr_getA dX6_enters_29 flX6_99 rfl (by decide) ?_
  refine aw_iload_n dX6_enters_32 rfl rfl ?_
  refine aw_dup2 dX6_enters_33 ?_
  refine rr_iald (n := 16) (S0 := S) dX6_enters_34 rfl rfl rfl (by omega) (by omega) (fun _ => rfl) ?_
  refine aw_iconst dX6_enters_35 ?_
  refine aw_iadd dX6_enters_36 ?_
  refine rr_iast (n := 16) dX6_enters_37 rfl rfl rfl (by omega) (by omega) ?_
  refine aw_aload_n dX6_enters_38 rfl rfl ?_
  refine rr_getA dX6_enters_39 flX6_105 rfl (by decide) ?_
  refine aw_iload_n dX6_enters_42 rfl rfl ?_
  refine aw_aload_n dX6_enters_43 rfl rfl ?_
  refine rr_getS (S0 := S) dX6_enters_44 flX6_112 rfl (by decide) (fun _ => rfl) ?_
  refine rr_iast (n := 16) dX6_enters_47 rfl rfl rfl (by omega) (by omega) ?_
  refine aw_aload_n dX6_enters_48 rfl rfl ?_
  refine rr_getA dX6_enters_49 flX6_48 rfl (by decide) ?_
  refine aw_iload_n dX6_enters_52 rfl rfl ?_
  refine aw_iload_n dX6_enters_53 rfl rfl ?_
  refine rr_iast (n := 30) dX6_enters_54 rfl rfl rfl (by omega) (by omega) ?_
  refine aw_aload_n dX6_enters_55 rfl rfl ?_
  refine rr_getA dX6_enters_56 flX6_51 rfl (by decide) ?_
  refine aw_iload_n dX6_enters_59 rfl rfl ?_
  refine aw_aload_n dX6_enters_60 rfl rfl ?_
  refine rr_getA dX6_enters_61 flX6_42 rfl (by decide) ?_
  refine aw_iload_n dX6_enters_64 rfl rfl ?_
  refine rr_zald (n := 30) (S0 := S) dX6_enters_65 rfl rfl rfl (by omega) (by omega) (fun _ => rfl) ?_
  refine aw_if_eq (tgt := 80) dX6_enters_66 (by decide) (by omega) (fun c_66 => ?_) (fun c_66 => ?_)
  · refine aw_aload_n dX6_enters_80 rfl rfl ?_
    refine rr_getA dX6_enters_81 flX6_13 rfl (by decide) ?_
    refine aw_iload_n dX6_enters_84 rfl rfl ?_
    refine rr_iald (n := 8) (S0 := S) dX6_enters_85 rfl rfl rfl (by omega) (by omega) (fun _ => rfl) ?_
    refine rr_iast (n := 30) dX6_enters_86 rfl rfl rfl (by omega) (by omega) ?_
    refine aw_vret dX6_enters_87 rfl (Nat.zero_le _) (Nat.zero_le _) ?_
    first | (rw [ent, if_pos (by assumption)]; exact ⟨rfl, rfl, rfl, rfl⟩) | (rw [ent, if_neg (by assumption)]; exact ⟨rfl, rfl, rfl, rfl⟩)
  · refine aw_iconst dX6_enters_69 ?_
    refine aw_aload_n dX6_enters_70 rfl rfl ?_
    refine rr_getA dX6_enters_71 flX6_13 rfl (by decide) ?_
    refine aw_iload_n dX6_enters_74 rfl rfl ?_
    refine rr_iald (n := 8) (S0 := S) dX6_enters_75 rfl rfl rfl (by omega) (by omega) (fun _ => rfl) ?_
    refine aw_imul dX6_enters_76 ?_
    refine aw_goto (tgt := 86) dX6_enters_77 (by decide) ?_
    refine rr_iast (n := 30) dX6_enters_86 rfl rfl rfl (by omega) (by omega) ?_
    refine aw_vret dX6_enters_87 rfl (Nat.zero_le _) (Nat.zero_le _) ?_
    first | (rw [ent, if_pos (by assumption)]; exact ⟨rfl, rfl, rfl, rfl⟩) | (rw [ent, if_neg (by assumption)]; exact ⟨rfl, rfl, rfl, rfl⟩)
set_option maxRecDepth 100000 in
set_option maxHeartbeats 4000000 in
theorem lp_X6_leaves {sec w : Int} (hs : 0 ≤ sec ∧ sec < 8) (hw : w = 0 ∨ w = 1) (hM : 0 ≤ S 33 (2 * sec + w) ∧ S 33 (2 * sec + w) ≤ 3) : ∀ (f n : Nat), n + f = (S 33 (2 * sec + w) - 1).toNat → AW l D cA A ad yX6_leaves cX6_leaves 5 none rm_X6_leaves (PR none (lvs S sec w) sz) 0 0 lvR (VR (shf (u2 S 33 (2 * sec + w) (S 33 (2 * sec + w) - 1)) 34 (30 * (2 * sec + w)) n)) sz 19 [some (.inr (some (50, 0))), some (.inl sec), some (.inl w), some (.inl (2 * sec + w)), some (.inl (n : Int))] [] := by
  have e33 : ∀ (n : Nat), shf (u2 S 33 (2 * sec + w) (S 33 (2 * sec + w) - 1)) 34 (30 * (2 * sec + w)) n 33 (2 * sec + w) = S 33 (2 * sec + w) - 1 := fun n => by rw [shf_ne (by decide), u2_self]
  intro f
  induction f with
  | zero =>
    intro n hn
    have e := e33 n
    refine aw_iload dX6_leaves_19 rfl ?_
    refine aw_aload_n dX6_leaves_21 rfl rfl ?_
    refine rr_getA dX6_leaves_22 flX6_99 rfl (by decide) ?_
    refine aw_iload_n dX6_leaves_25 rfl rfl ?_
    refine rr_iald (n := 16) (S0 := shf (u2 S 33 (2 * sec + w) (S 33 (2 * sec + w) - 1)) 34 (30 * (2 * sec + w)) n) dX6_leaves_26 rfl rfl rfl (by omega) (by omega) (fun _ => rfl) ?_
    refine aw_icmp_ge (tgt := 62) dX6_leaves_27 (by decide) (by omega) (by omega) (fun c_27 => ?_) (fun c_27 => absurd c_27 (by omega))
    refine aw_vret dX6_leaves_62 rfl (Nat.zero_le _) (Nat.zero_le _) ?_
    rw [lvs, show (S 33 (2 * sec + w) - 1).toNat = n by omega]
    exact ⟨rfl, rfl, rfl, rfl⟩
  | succ f ih =>
    intro n hn
    have e := e33 n
    refine aw_iload dX6_leaves_19 rfl ?_
    refine aw_aload_n dX6_leaves_21 rfl rfl ?_
    refine rr_getA dX6_leaves_22 flX6_99 rfl (by decide) ?_
    refine aw_iload_n dX6_leaves_25 rfl rfl ?_
    refine rr_iald (n := 16) (S0 := shf (u2 S 33 (2 * sec + w) (S 33 (2 * sec + w) - 1)) 34 (30 * (2 * sec + w)) n) dX6_leaves_26 rfl rfl rfl (by omega) (by omega) (fun _ => rfl) ?_
    refine aw_icmp_ge (tgt := 62) dX6_leaves_27 (by decide) (by omega) (by omega) (fun c_27 => absurd c_27 (by omega)) (fun c_27 => ?_)
    refine aw_aload_n dX6_leaves_30 rfl rfl ?_
    refine rr_getA dX6_leaves_31 flX6_102 rfl (by decide) ?_
    refine aw_bipush dX6_leaves_34 (by decide) ?_
    refine aw_iload_n dX6_leaves_36 rfl rfl ?_
    refine aw_imul dX6_leaves_37 ?_
    refine aw_iload dX6_leaves_38 rfl ?_
    refine aw_iadd dX6_leaves_40 ?_
    refine aw_aload_n dX6_leaves_41 rfl rfl ?_
    refine rr_getA dX6_leaves_42 flX6_102 rfl (by decide) ?_
    refine aw_bipush dX6_leaves_45 (by decide) ?_
    refine aw_iload_n dX6_leaves_47 rfl rfl ?_
    refine aw_imul dX6_leaves_48 ?_
    refine aw_iload dX6_leaves_49 rfl ?_
    refine aw_iadd dX6_leaves_51 ?_
    refine aw_iconst dX6_leaves_52 ?_
    refine aw_iadd dX6_leaves_53 ?_
    refine rr_iald (n := 480) dX6_leaves_54 rfl rfl rfl (by omega) (by omega) (fun _ => rfl) ?_
    refine rr_iast (n := 480) dX6_leaves_55 rfl rfl rfl (by omega) (by omega) ?_
    refine aw_iinc dX6_leaves_56 rfl (by decide) ?_
    refine aw_goto (tgt := 19) dX6_leaves_59 (by decide) ?_
    exact AW.lss (ih (n + 1) (by omega)) (And.intro rfl (And.intro rfl (And.intro rfl (And.intro rfl (And.intro rfl trivial)))))
set_option maxRecDepth 100000 in
set_option maxHeartbeats 4000000 in
theorem c_X6_leaves {sec w : Int} (hs : 0 ≤ sec ∧ sec < 8) (hw : w = 0 ∨ w = 1) (hM : 0 ≤ S 33 (2 * sec + w) ∧ S 33 (2 * sec + w) ≤ 3) : CT l D cA A ad yX6_leaves cX6_leaves 5 none rm_X6_leaves [.inr (some (50, 0)), .inl sec, .inl w] lvR (VR S) sz (PR none (lvs S sec w) sz) := by
  refine CT.of2 [some (.inr (some (50, 0))), some (.inl sec), some (.inl w), none, none] (by decide) (Nat.le_of_ble_eq_true rfl) rfl ?_
  refine aw_iconst dX6_leaves_0 ?_
  refine aw_iload_n dX6_leaves_1 rfl rfl ?_
  refine aw_imul dX6_leaves_2 ?_
  refine aw_iload_n dX6_leaves_3 rfl rfl ?_
  refine aw_iadd dX6_leaves_4 ?_
  refine aw_istore_n dX6_leaves_5 rfl (by decide) ?_
  refine aw_aload_n dX6_leaves_6 rfl rfl ?_
  refine rr_getA dX6_leaves_7 flX6_99 rfl (by decide) ?_
  refine aw_iload_n dX6_leaves_10 rfl rfl ?_
  refine aw_dup2 dX6_leaves_11 ?_
  refine rr_iald (n := 16) dX6_leaves_12 rfl rfl rfl (by omega) (by omega) (fun _ => rfl) ?_
  refine aw_iconst dX6_leaves_13 ?_
  refine aw_isub dX6_leaves_14 ?_
  refine rr_iast (n := 16) dX6_leaves_15 rfl rfl rfl (by omega) (by omega) ?_
  refine aw_iconst dX6_leaves_16 ?_
  refine aw_istore dX6_leaves_17 (by decide) ?_
  exact lp_X6_leaves hs hw hM (S 33 (2 * sec + w) - 1).toNat 0 (by omega)
end REF2
end
section
section REF3
variable {l : Launch} {D : va_G} {cA : Nat → ClassId} {A : Nat → Prop} {ad : Ad} {lv : Lw} {V : Vw} {sz : Nat} {S : SS}
/-- a ship may come behind its line: there is a place -/
def JOK (S : SS) (s : Int) : Prop := 0 ≤ S 31 (S 9 s) ∧ S 31 (S 9 s) < 30
def okC (S : SS) (c : Int) : Prop := S 26 c = S 0 0 → (∀ k : Nat, k < (S 27 c).toNat → S 10 (S 28 (8 * c + k)) ≤ S 0 0 → JOK (stB S c k) (S 28 (8 * c + k))) ∧ ∀ k : Nat, k < (S 29 c).toNat → JOK (stP (stB S c (S 27 c).toNat) c k) (S 30 (30 * c + k))
def okS (S : SS) : Prop := ∀ n : Nat, (n : Int) < S 24 0 → okC (sts S n) n
set_option maxRecDepth 100000 in
set_option maxHeartbeats 4000000 in
theorem lpB_X6_starts {T S9 : SS} {c : Nat} (hB : BB T) (hc : (c : Int) < T 24 0) (he : T 26 c = T 0 0) (hok : okC T c) (hk : AW l D cA A ad yX6_starts cX6_starts 3 none rm_X6_starts (PR none (S9) sz) 0 0 lvR (VR (stB T c (T 27 c).toNat)) sz 79 [some (.inr (some (50, 0))), some (.inl (c : Int)), none] []) : ∀ (f k : Nat), k + f = (T 27 c).toNat → AW l D cA A ad yX6_starts cX6_starts 3 none rm_X6_starts (PR none (S9) sz) 0 0 lvR (VR (stB T c k)) sz 25 [some (.inr (some (50, 0))), some (.inl (c : Int)), some (.inl (k : Int))] [] := by
  have hm := hB.m
  simp only [bsm] at hm
  have hcv := hB.cv (c := (c : Int)) (by omega) (by omega)
  simp only [bcv] at hcv
  intro f
  induction f with
  | zero =>
    intro k hkf
    refine aw_iload_n dX6_starts_25 rfl rfl ?_
    refine aw_aload_n dX6_starts_26 rfl rfl ?_
    refine rr_getA dX6_starts_27 flX6_81 rfl (by decide) ?_
    refine aw_iload_n dX6_starts_30 rfl rfl ?_
    refine rr_iald (n := 12) (S0 := T) dX6_starts_31 rfl rfl rfl (by omega) (by omega) (fun _ => stB_ne (by decide) (by decide) _ _) ?_
    refine aw_icmp_ge (tgt := 79) dX6_starts_32 (by decide) (by omega) (by omega) (fun c_32 => ?_) (fun c_32 => absurd c_32 (by omega))
    rw [show k = (T 27 c).toNat by omega]
    exact AW.lss hk (And.intro rfl (And.intro rfl trivial))
  | succ f ih =>
    intro k hkf
    have hb := hB.bk (x := 8 * (c : Int) + k) (by omega) (by omega)
    have hsh := hB.sh hb.1 hb.2
    simp only [bsh] at hsh
    refine aw_iload_n dX6_starts_25 rfl rfl ?_
    refine aw_aload_n dX6_starts_26 rfl rfl ?_
    refine rr_getA dX6_starts_27 flX6_81 rfl (by decide) ?_
    refine aw_iload_n dX6_starts_30 rfl rfl ?_
    refine rr_iald (n := 12) (S0 := T) dX6_starts_31 rfl rfl rfl (by omega) (by omega) (fun _ => stB_ne (by decide) (by decide) _ _) ?_
    refine aw_icmp_ge (tgt := 79) dX6_starts_32 (by decide) (by omega) (by omega) (fun c_32 => absurd c_32 (by omega)) (fun c_32 => ?_)
    refine aw_aload_n dX6_starts_35 rfl rfl ?_
    refine rr_getA dX6_starts_36 flX6_33 rfl (by decide) ?_
    refine aw_aload_n dX6_starts_39 rfl rfl ?_
    refine rr_getA dX6_starts_40 flX6_84 rfl (by decide) ?_
    refine aw_bipush dX6_starts_43 (by decide) ?_
    refine aw_iload_n dX6_starts_45 rfl rfl ?_
    refine aw_imul dX6_starts_46 ?_
    refine aw_iload_n dX6_starts_47 rfl rfl ?_
    refine aw_iadd dX6_starts_48 ?_
    refine rr_iald (n := 96) (S0 := T) dX6_starts_49 rfl rfl rfl (by omega) (by omega) (fun _ => stB_ne (by decide) (by decide) _ _) ?_
    refine rr_iald (n := 30) (S0 := T) dX6_starts_50 rfl rfl rfl (by omega) (by omega) (fun _ => stB_ne (by decide) (by decide) _ _) ?_
    refine aw_aload_n dX6_starts_51 rfl rfl ?_
    refine rr_getS (S0 := T) dX6_starts_52 flX6_112 rfl (by decide) (fun _ => stB_ne (by decide) (by decide) _ _) ?_
    refine aw_icmp_gt (tgt := 73) dX6_starts_55 (by decide) (by omega) (by omega) (fun c_55 => ?_) (fun c_55 => ?_)
    · refine aw_iinc dX6_starts_73 rfl (by decide) ?_
      refine aw_goto (tgt := 25) dX6_starts_76 (by decide) ?_
      refine AW.lsV (ih (k + 1) (by omega)) (And.intro rfl (And.intro rfl (And.intro rfl trivial))) ?_
      congr 1
      simp only [stB]
      first | rw [if_pos c_55] | rw [if_neg (by omega)]
    · have hj := (hok he).1 k (by omega) c_55
      refine aw_aload_n dX6_starts_58 rfl rfl ?_
      refine aw_aload_n dX6_starts_59 rfl rfl ?_
      refine rr_getA dX6_starts_60 flX6_84 rfl (by decide) ?_
      refine aw_bipush dX6_starts_63 (by decide) ?_
      refine aw_iload_n dX6_starts_65 rfl rfl ?_
      refine aw_imul dX6_starts_66 ?_
      refine aw_iload_n dX6_starts_67 rfl rfl ?_
      refine aw_iadd dX6_starts_68 ?_
      refine rr_iald (n := 96) (S0 := T) dX6_starts_69 rfl rfl rfl (by omega) (by omega) (fun _ => stB_ne (by decide) (by decide) _ _) ?_
      refine aw_callV (c_X6_joins (by omega) (by rw [stB_ne (by decide) (by decide)]; omega) hj) mv_X6_joins mlX6_125 dX6_starts_70 rfl rfl (by decide) rfl (Nat.le_of_ble_eq_true rfl) rfl ?_
      rintro _ _ _ _ ⟨rfl, rfl, rfl, rfl⟩
      refine aw_iinc dX6_starts_73 rfl (by decide) ?_
      refine aw_goto (tgt := 25) dX6_starts_76 (by decide) ?_
      refine AW.lsV (ih (k + 1) (by omega)) (And.intro rfl (And.intro rfl (And.intro rfl trivial))) ?_
      congr 1
      simp only [stB]
      first | rw [if_pos c_55] | rw [if_neg (by omega)]
set_option maxRecDepth 100000 in
set_option maxHeartbeats 4000000 in
theorem lpP_X6_starts {T S9 : SS} {c : Nat} (hB : BB T) (hc : (c : Int) < T 24 0) (hok : ∀ k : Nat, k < (T 29 c).toNat → JOK (stP T c k) (T 30 (30 * (c : Int) + k))) (hk : AW l D cA A ad yX6_starts cX6_starts 3 none rm_X6_starts (PR none (S9) sz) 0 0 lvR (VR (stP T c (T 29 c).toNat)) sz 112 [some (.inr (some (50, 0))), some (.inl (c : Int)), none] []) : ∀ (f k : Nat), k + f = (T 29 c).toNat → AW l D cA A ad yX6_starts cX6_starts 3 none rm_X6_starts (PR none (S9) sz) 0 0 lvR (VR (stP T c k)) sz 81 [some (.inr (some (50, 0))), some (.inl (c : Int)), some (.inl (k : Int))] [] := by
  have hm := hB.m
  simp only [bsm] at hm
  have hcv := hB.cv (c := (c : Int)) (by omega) (by omega)
  simp only [bcv] at hcv
  intro f
  induction f with
  | zero =>
    intro k hkf
    refine aw_iload_n dX6_starts_81 rfl rfl ?_
    refine aw_aload_n dX6_starts_82 rfl rfl ?_
    refine rr_getA dX6_starts_83 flX6_87 rfl (by decide) ?_
    refine aw_iload_n dX6_starts_86 rfl rfl ?_
    refine rr_iald (n := 12) (S0 := T) dX6_starts_87 rfl rfl rfl (by omega) (by omega) (fun _ => stP_ne (by decide) (by decide) _ _) ?_
    refine aw_icmp_ge (tgt := 112) dX6_starts_88 (by decide) (by omega) (by omega) (fun c_88 => ?_) (fun c_88 => absurd c_88 (by omega))
    rw [show k = (T 29 c).toNat by omega]
    exact AW.lss hk (And.intro rfl (And.intro rfl trivial))
  | succ f ih =>
    intro k hkf
    have hb := hB.pt (x := 30 * (c : Int) + k) (by omega) (by omega)
    have hsh := hB.sh hb.1 hb.2
    simp only [bsh] at hsh
    have hj := hok k (by omega)
    refine aw_iload_n dX6_starts_81 rfl rfl ?_
    refine aw_aload_n dX6_starts_82 rfl rfl ?_
    refine rr_getA dX6_starts_83 flX6_87 rfl (by decide) ?_
    refine aw_iload_n dX6_starts_86 rfl rfl ?_
    refine rr_iald (n := 12) (S0 := T) dX6_starts_87 rfl rfl rfl (by omega) (by omega) (fun _ => stP_ne (by decide) (by decide) _ _) ?_
    refine aw_icmp_ge (tgt := 112) dX6_starts_88 (by decide) (by omega) (by omega) (fun c_88 => absurd c_88 (by omega)) (fun c_88 => ?_)
    refine aw_aload_n dX6_starts_91 rfl rfl ?_
    refine aw_aload_n dX6_starts_92 rfl rfl ?_
    refine rr_getA dX6_starts_93 flX6_90 rfl (by decide) ?_
    refine aw_bipush dX6_starts_96 (by decide) ?_
    refine aw_iload_n dX6_starts_98 rfl rfl ?_
    refine aw_imul dX6_starts_99 ?_
    refine aw_iload_n dX6_starts_100 rfl rfl ?_
    refine aw_iadd dX6_starts_101 ?_
    refine rr_iald (n := 360) (S0 := T) dX6_starts_102 rfl rfl rfl (by omega) (by omega) (fun _ => stP_ne (by decide) (by decide) _ _) ?_
    refine aw_callV (c_X6_joins (by omega) (by rw [stP_ne (by decide) (by decide)]; omega) hj) mv_X6_joins mlX6_125 dX6_starts_103 rfl rfl (by decide) rfl (Nat.le_of_ble_eq_true rfl) rfl ?_
    rintro _ _ _ _ ⟨rfl, rfl, rfl, rfl⟩
    refine aw_iinc dX6_starts_106 rfl (by decide) ?_
    refine aw_goto (tgt := 81) dX6_starts_109 (by decide) ?_
    exact AW.lss (ih (k + 1) (by omega)) (And.intro rfl (And.intro rfl (And.intro rfl trivial)))
theorem BB_eq {S T : SS} (h : BB S) (h31 : ∀ w, 0 ≤ w → w < 2 → 0 ≤ T 31 w ∧ T 31 w ≤ 30) (h32 : ∀ x, 0 ≤ x → x < 60 → 0 ≤ T 32 x ∧ T 32 x < 30) (he : ∀ k, k ≠ 31 → k ≠ 32 → ∀ x, T k x = S k x) : BB T := by
  obtain ⟨b1, b2, b3, b4, b5, b6, b7, b8, b9, b10, b11⟩ := h
  refine ⟨?_, fun s h0 h1 => ?_, fun s h0 h1 => ?_, fun s h0 h1 => ?_, fun s h0 h1 => ?_, h31, fun s h0 h1 => ?_, h32, fun s h0 h1 => ?_, fun s h0 h1 => ?_, fun s h0 h1 => ?_⟩
  · simp only [bsm] at b1 ⊢; simp only [he 0 (by decide) (by decide), he 1 (by decide) (by decide), he 2 (by decide) (by decide), he 8 (by decide) (by decide), he 24 (by decide) (by decide)]; exact b1
  · have := b2 s h0 h1; simp only [bsh] at this ⊢; simp only [he 9 (by decide) (by decide), he 10 (by decide) (by decide), he 11 (by decide) (by decide), he 12 (by decide) (by decide), he 13 (by decide) (by decide), he 14 (by decide) (by decide), he 15 (by decide) (by decide), he 16 (by decide) (by decide), he 17 (by decide) (by decide), he 18 (by decide) (by decide), he 21 (by decide) (by decide), he 22 (by decide) (by decide)]; exact this
  · have := b3 s h0 h1; simp only [bcv] at this ⊢; simp only [he 25 (by decide) (by decide), he 26 (by decide) (by decide), he 27 (by decide) (by decide), he 29 (by decide) (by decide)]; exact this
  · have := b4 s h0 h1; simp only [bsc] at this ⊢; simp only [he 3 (by decide) (by decide), he 4 (by decide) (by decide), he 5 (by decide) (by decide)]; exact this
  · have := b5 s h0 h1; simp only [he 6 (by decide) (by decide), he 7 (by decide) (by decide)]; exact this
  · have := b7 s h0 h1; simp only [he 33 (by decide) (by decide), he 35 (by decide) (by decide)]; exact this
  · have := b9 s h0 h1; simp only [he 34 (by decide) (by decide)]; exact this
  · have := b10 s h0 h1; simp only [he 28 (by decide) (by decide)]; exact this
  · have := b11 s h0 h1; simp only [he 30 (by decide) (by decide)]; exact this
theorem BB_jn {S : SS} {s : Int} (h : BB S) (hs : 0 ≤ s ∧ s < 30) (hj : JOK S s) : BB (jn S s) := by
  have hsh := h.sh hs.1 hs.2
  simp only [bsh] at hsh
  simp only [JOK] at hj
  refine BB_eq h (fun w h0 h1 => ?_) (fun x h0 h1 => ?_) (fun k h1 h2 x => jn_ne h1 h2 x)
  · have := h.ln h0 h1
    simp only [jn]
    rw [u2_at, u2_ne (by decide)]
    split <;> omega
  · have := h.li h0 h1
    simp only [jn]
    rw [u2_ne (by decide), u2_at]
    split <;> omega
theorem BB_stB {S : SS} {c : Int} (h : BB S) (hc : 0 ≤ c ∧ c < 12) (n : Nat) (hn : n ≤ (S 27 c).toNat) (hok : ∀ k : Nat, k < n → S 10 (S 28 (8 * c + k)) ≤ S 0 0 → JOK (stB S c k) (S 28 (8 * c + k))) : BB (stB S c n) := by
  have hcv := h.cv hc.1 hc.2
  simp only [bcv] at hcv
  induction n with
  | zero => exact h
  | succ n ih =>
    have i1 := ih (by omega) (fun k hk => hok k (by omega))
    simp only [stB]
    split
    · rename_i h1
      exact BB_jn i1 (h.bk (by omega) (by omega)) (hok n (by omega) h1)
    · exact i1
theorem BB_stP {S : SS} {c : Int} (h : BB S) (hc : 0 ≤ c ∧ c < 12) (n : Nat) (hn : n ≤ (S 29 c).toNat) (hok : ∀ k : Nat, k < n → JOK (stP S c k) (S 30 (30 * c + k))) : BB (stP S c n) := by
  have hcv := h.cv hc.1 hc.2
  simp only [bcv] at hcv
  induction n with
  | zero => exact h
  | succ n ih =>
    have i1 := ih (by omega) (fun k hk => hok k (by omega))
    simp only [stP]
    exact BB_jn i1 (h.pt (by omega) (by omega)) (hok n (by omega))
theorem BB_stC {S : SS} {c : Int} (h : BB S) (hc : 0 ≤ c ∧ c < 12) (hok : okC S c) : BB (stC S c) := by
  simp only [stC]
  split
  · rename_i h1
    obtain ⟨o1, o2⟩ := hok h1
    have b1 := BB_stB h hc _ (Nat.le_refl _) o1
    refine BB_stP b1 hc _ (by rw [stB_ne (by decide) (by decide)]; exact Nat.le_refl _) (fun k hk => ?_)
    rw [stB_ne (by decide) (by decide)]
    exact o2 k hk
  · exact h
theorem BB_sts {S : SS} (h : BB S) (hok : okS S) (n : Nat) (hn : (n : Int) ≤ S 24 0) : BB (sts S n) := by
  have hm := h.m
  simp only [bsm] at hm
  induction n with
  | zero => exact h
  | succ n ih => exact BB_stC (ih (by omega)) (by omega) (hok n (by omega))
set_option maxRecDepth 100000 in
set_option maxHeartbeats 4000000 in
theorem lp_X6_starts {S9 : SS} (hB : BB S) (hok : okS S) (h9 : S9 = sts S (S 24 0).toNat) : ∀ (f n : Nat), n + f = (S 24 0).toNat → AW l D cA A ad yX6_starts cX6_starts 3 none rm_X6_starts (PR none (S9) sz) 0 0 lvR (VR (sts S n)) sz 2 [some (.inr (some (50, 0))), some (.inl (n : Int)), none] [] := by
  have hm := hB.m
  simp only [bsm] at hm
  intro f
  induction f with
  | zero =>
    intro n hn
    refine aw_iload_n dX6_starts_2 rfl rfl ?_
    refine aw_aload_n dX6_starts_3 rfl rfl ?_
    refine rr_getS (S0 := S) dX6_starts_4 flX6_122 rfl (by decide) (fun _ => sts_ne (by decide) (by decide) _ _) ?_
    refine aw_icmp_ge (tgt := 118) dX6_starts_7 (by decide) (by omega) (by omega) (fun c_7 => ?_) (fun c_7 => absurd c_7 (by omega))
    refine aw_vret dX6_starts_118 rfl (Nat.zero_le _) (Nat.zero_le _) ?_
    rw [h9, show (S 24 0).toNat = n by omega]
    exact ⟨rfl, rfl, rfl, rfl⟩
  | succ f ih =>
    intro n hn
    have hcv := hB.cv (c := (n : Int)) (by omega) (by omega)
    simp only [bcv] at hcv
    have ih2 := ih (n + 1) (by omega)
    have hbT := BB_sts hB hok n (by omega)
    have hoc := hok n (by omega)
    have e24 : sts S n 24 0 = S 24 0 := sts_ne (by decide) (by decide) _ _
    have e26 : sts S n 26 n = S 26 n := sts_ne (by decide) (by decide) _ _
    have e0 : sts S n 0 0 = S 0 0 := sts_ne (by decide) (by decide) _ _
    refine aw_iload_n dX6_starts_2 rfl rfl ?_
    refine aw_aload_n dX6_starts_3 rfl rfl ?_
    refine rr_getS (S0 := S) dX6_starts_4 flX6_122 rfl (by decide) (fun _ => sts_ne (by decide) (by decide) _ _) ?_
    refine aw_icmp_ge (tgt := 118) dX6_starts_7 (by decide) (by omega) (by omega) (fun c_7 => absurd c_7 (by omega)) (fun c_7 => ?_)
    refine aw_aload_n dX6_starts_10 rfl rfl ?_
    refine rr_getA dX6_starts_11 flX6_78 rfl (by decide) ?_
    refine aw_iload_n dX6_starts_14 rfl rfl ?_
    refine rr_iald (n := 12) (S0 := S) dX6_starts_15 rfl rfl rfl (by omega) (by omega) (fun _ => sts_ne (by decide) (by decide) _ _) ?_
    refine aw_aload_n dX6_starts_16 rfl rfl ?_
    refine rr_getS (S0 := S) dX6_starts_17 flX6_112 rfl (by decide) (fun _ => sts_ne (by decide) (by decide) _ _) ?_
    refine aw_icmp_ne (tgt := 112) dX6_starts_20 (by decide) (by omega) (by omega) (fun c_20 => ?_) (fun c_20 => ?_)
    · refine aw_iinc dX6_starts_112 rfl (by decide) ?_
      refine aw_goto (tgt := 2) dX6_starts_115 (by decide) ?_
      refine AW.lsV ih2 (And.intro rfl (And.intro rfl trivial)) ?_
      congr 1
      simp only [sts, stC]
      rw [if_neg (by omega)]
    · refine aw_iconst dX6_starts_23 ?_
      refine aw_istore_n dX6_starts_24 rfl (by decide) ?_
      have o12 := hoc (by omega)
      have hbB := BB_stB hbT (by omega) _ (Nat.le_refl _) o12.1
      have eB : stB (sts S n) n (sts S n 27 n).toNat 29 n = sts S n 29 n := stB_ne (by decide) (by decide) _ _
      refine AW.lss (lpB_X6_starts (T := sts S n) (c := n) hbT (by omega) (by omega) hoc ?_ (sts S n 27 n).toNat 0 (by omega)) (And.intro rfl (And.intro rfl (And.intro rfl trivial)))
      refine aw_iconst dX6_starts_79 ?_
      refine aw_istore_n dX6_starts_80 rfl (by decide) ?_
      refine AW.lss (lpP_X6_starts (T := stB (sts S n) n (sts S n 27 n).toNat) (c := n) hbB (by rw [stB_ne (by decide) (by decide)]; omega) (fun k hk => by rw [stB_ne (by decide) (by decide)]; exact o12.2 k (by omega)) ?_ (stB (sts S n) n (sts S n 27 n).toNat 29 n).toNat 0 (by omega)) (And.intro rfl (And.intro rfl (And.intro rfl trivial)))
      refine aw_iinc dX6_starts_112 rfl (by decide) ?_
      refine aw_goto (tgt := 2) dX6_starts_115 (by decide) ?_
      refine AW.lsV ih2 (And.intro rfl (And.intro rfl trivial)) ?_
      congr 1
      simp only [sts, stC]
      rw [if_pos (by omega), stB_ne (by decide) (by decide)]
set_option maxRecDepth 100000 in
set_option maxHeartbeats 4000000 in
theorem c_X6_starts (hB : BB S) (hok : okS S) : CT l D cA A ad yX6_starts cX6_starts 3 none rm_X6_starts [.inr (some (50, 0))] lvR (VR S) sz (PR none (sts S (S 24 0).toNat) sz) := by
  refine CT.of2 [some (.inr (some (50, 0))), none, none] (by decide) (Nat.le_of_ble_eq_true rfl) rfl ?_
  refine aw_iconst dX6_starts_0 ?_
  refine aw_istore_n dX6_starts_1 rfl (by decide) ?_
  exact AW.lss (lp_X6_starts hB hok rfl (S 24 0).toNat 0 (by omega)) (And.intro rfl (And.intro rfl trivial))
end REF3
end
section
/-! ===== bounds, place by place ===== -/
def rng (k : Nat) (v : Int) : Prop := match k with
  | 0 => 0 ≤ v ∧ v ≤ 10000
  | 1 => 0 ≤ v ∧ v ≤ 60
  | 2 => v = 0 ∨ v = 1
  | 3 => 1 ≤ v ∧ v ≤ 60
  | 4 => 1 ≤ v ∧ v ≤ 40
  | 5 => v = 0 ∨ v = 1
  | 6 => 0 ≤ v ∧ v ≤ 9
  | 7 => -1 ≤ v ∧ v ≤ 12
  | 8 => 0 ≤ v ∧ v ≤ 30
  | 9 => v = 0 ∨ v = 1
  | 10 => 0 ≤ v ∧ v ≤ 9999
  | 11 => v = 0 ∨ v = 1
  | 12 => 0 ≤ v ∧ v ≤ 45
  | 13 => v = 0 ∨ v = 1
  | 14 => 0 ≤ v ∧ v ≤ 200000
  | 15 => -1 ≤ v ∧ v ≤ 8
  | 16 => 0 ≤ v ∧ v ≤ 120
  | 17 => v = 0 ∨ v = 1
  | 18 => v = 0 ∨ v = 1
  | 21 => 0 ≤ v ∧ v ≤ 500
  | 22 => -4 ≤ v ∧ v < 12
  | 24 => 0 ≤ v ∧ v ≤ 12
  | 25 => v = 0 ∨ v = 1
  | 26 => 0 ≤ v ∧ v ≤ 9999
  | 27 => 0 ≤ v ∧ v ≤ 8
  | 28 => 0 ≤ v ∧ v < 30
  | 29 => 0 ≤ v ∧ v ≤ 30
  | 30 => 0 ≤ v ∧ v < 30
  | 31 => 0 ≤ v ∧ v ≤ 30
  | 32 => 0 ≤ v ∧ v < 30
  | 33 => 0 ≤ v ∧ v ≤ 3
  | 34 => 0 ≤ v ∧ v < 30
  | 35 => -1000 ≤ v ∧ v ≤ 10000
  | _ => True
def dml (k : Nat) : Int := match k with
  | 0 => 1
  | 1 => 1
  | 2 => 1
  | 3 => 8
  | 4 => 8
  | 5 => 8
  | 6 => 24
  | 7 => 24
  | 8 => 1
  | 23 => 210
  | 24 => 1
  | 25 => 12
  | 26 => 12
  | 27 => 12
  | 28 => 96
  | 29 => 12
  | 30 => 360
  | 31 => 2
  | 32 => 60
  | 33 => 16
  | 34 => 480
  | 35 => 16
  | _ => 30
def BQ (S : SS) : Prop := ∀ (k : Nat) (x : Int), 0 ≤ x → x < dml k → rng k (S k x)
theorem BQ.bb {S : SS} (h : BQ S) : BB S := by
  refine ⟨?_, fun s h0 h1 => ?_, fun s h0 h1 => ?_, fun s h0 h1 => ?_, fun s h0 h1 => ?_, fun s h0 h1 => ?_, fun s h0 h1 => ?_, fun s h0 h1 => ?_, fun s h0 h1 => ?_, fun s h0 h1 => ?_, fun s h0 h1 => ?_⟩
  · exact ⟨h 0 0 (by decide) (by decide), h 1 0 (by decide) (by decide), h 2 0 (by decide) (by decide), h 8 0 (by decide) (by decide), h 24 0 (by decide) (by decide)⟩
  · exact ⟨h 9 s h0 h1, h 10 s h0 h1, h 11 s h0 h1, h 12 s h0 h1, h 13 s h0 h1, h 14 s h0 h1, h 15 s h0 h1, h 16 s h0 h1, h 17 s h0 h1, h 18 s h0 h1, h 21 s h0 h1, h 22 s h0 h1⟩
  · exact ⟨h 25 s h0 h1, h 26 s h0 h1, h 27 s h0 h1, h 29 s h0 h1⟩
  · exact ⟨h 3 s h0 h1, h 4 s h0 h1, h 5 s h0 h1⟩
  · exact ⟨h 6 s h0 h1, h 7 s h0 h1⟩
  · exact h 31 s h0 h1
  · exact ⟨h 33 s h0 h1, h 35 s h0 h1⟩
  · exact h 32 s h0 h1
  · exact h 34 s h0 h1
  · exact h 28 s h0 h1
  · exact h 30 s h0 h1
theorem BB.bq {S : SS} (h : BB S) : BQ S := by
  obtain ⟨b1, b2, b3, b4, b5, b6, b7, b8, b9, b10, b11⟩ := h
  intro k x h0 h1
  have z : ∀ {x : Int}, 0 ≤ x → x < 1 → x = 0 := fun a b => by omega
  match k, h1 with
  | 0, h1 => rw [z h0 h1]; exact b1.1
  | 1, h1 => rw [z h0 h1]; exact b1.2.1
  | 2, h1 => rw [z h0 h1]; exact b1.2.2.1
  | 3, h1 => exact (b4 x h0 h1).1
  | 4, h1 => exact (b4 x h0 h1).2.1
  | 5, h1 => exact (b4 x h0 h1).2.2
  | 6, h1 => exact (b5 x h0 h1).1
  | 7, h1 => exact (b5 x h0 h1).2
  | 8, h1 => rw [z h0 h1]; exact b1.2.2.2.1
  | 9, h1 => exact (b2 x h0 h1).1
  | 10, h1 => exact (b2 x h0 h1).2.1
  | 11, h1 => exact (b2 x h0 h1).2.2.1
  | 12, h1 => exact (b2 x h0 h1).2.2.2.1
  | 13, h1 => exact (b2 x h0 h1).2.2.2.2.1
  | 14, h1 => exact (b2 x h0 h1).2.2.2.2.2.1
  | 15, h1 => exact (b2 x h0 h1).2.2.2.2.2.2.1
  | 16, h1 => exact (b2 x h0 h1).2.2.2.2.2.2.2.1
  | 17, h1 => exact (b2 x h0 h1).2.2.2.2.2.2.2.2.1
  | 18, h1 => exact (b2 x h0 h1).2.2.2.2.2.2.2.2.2.1
  | 19, h1 => trivial
  | 20, h1 => trivial
  | 21, h1 => exact (b2 x h0 h1).2.2.2.2.2.2.2.2.2.2.1
  | 22, h1 => exact (b2 x h0 h1).2.2.2.2.2.2.2.2.2.2.2
  | 23, h1 => trivial
  | 24, h1 => rw [z h0 h1]; exact b1.2.2.2.2
  | 25, h1 => exact (b3 x h0 h1).1
  | 26, h1 => exact (b3 x h0 h1).2.1
  | 27, h1 => exact (b3 x h0 h1).2.2.1
  | 28, h1 => exact b10 x h0 h1
  | 29, h1 => exact (b3 x h0 h1).2.2.2
  | 30, h1 => exact b11 x h0 h1
  | 31, h1 => exact b6 x h0 h1
  | 32, h1 => exact b8 x h0 h1
  | 33, h1 => exact (b7 x h0 h1).1
  | 34, h1 => exact b9 x h0 h1
  | 35, h1 => exact (b7 x h0 h1).2
  | (k + 36), h1 => trivial
theorem BB_u2 {S : SS} {k : Nat} {x v : Int} (h : BB S) (hv : 0 ≤ x → x < dml k → rng k v) : BB (u2 S k x v) := by
  refine BQ.bb (fun k' x' h0 h1 => ?_)
  by_cases e : k' = k ∧ x' = x
  · obtain ⟨rfl, rfl⟩ := e
    rw [u2_self]
    exact hv h0 h1
  · simp only [u2]
    rw [if_neg e]
    exact h.bq k' x' h0 h1
theorem BB_wt {S : SS} {x : Int} (h : BB S) : BB (wt S x) := BB_u2 h (fun _ _ => trivial)
theorem BB_tk {S : SS} {s : Int} (h : BB S) : BB (tk S s) := BB_u2 h (fun h0 h1 => by
  have := h.bq 16 s h0 h1
  simp only [rng] at this ⊢
  split <;> omega)
theorem BB_shf {S : SS} {k : Nat} {b : Int} {n : Nat} (h : BB S) (h0 : 0 ≤ b) (h1 : b + n < dml k) : BB (shf S k b n) := by
  induction n with
  | zero => exact h
  | succ n ih =>
    have i := ih (by omega)
    exact BB_u2 i (fun _ _ => i.bq k _ (by omega) (by omega))
theorem BB_ent {S : SS} {s sec : Int} (h : BB S) (hs : 0 ≤ s ∧ s < 30) (hs2 : 0 ≤ sec ∧ sec < 8) (hM : S 33 (2 * sec + S 9 s) ≤ 2) : BB (ent S s sec) := by
  have hsh := h.sh hs.1 hs.2
  have hsc := h.sc hs2.1 hs2.2
  have hm := h.m
  simp only [bsh] at hsh
  simp only [bsc] at hsc
  simp only [bsm] at hm
  have hi := h.iM (a := 2 * sec + S 9 s) (by omega) (by omega)
  simp only [ent]
  refine BB_u2 (BB_u2 (BB_u2 (BB_u2 (BB_u2 h ?_) ?_) ?_) ?_) ?_ <;> intro _ _ <;> simp only [rng] <;> (try split) <;> omega
theorem BB_lvs {S : SS} {sec w : Int} (h : BB S) (hs : 0 ≤ sec ∧ sec < 8) (hw : w = 0 ∨ w = 1) (hM : 1 ≤ S 33 (2 * sec + w)) : BB (lvs S sec w) := by
  have hi := h.iM (a := 2 * sec + w) (by omega) (by omega)
  simp only [lvs]
  refine BB_shf (BB_u2 h ?_) (by omega) (by simp only [dml]; omega)
  intro _ _
  simp only [rng]
  omega
theorem BB_agd {S : SS} (h : BB S) (n : Nat) (hn : n ≤ 30) : BB (agd S n) := by
  induction n with
  | zero => exact h
  | succ n ih =>
    have hs := h.bq 21 n (by omega) (by simp only [dml]; omega)
    refine BB_u2 (ih (by omega)) (fun _ _ => ?_)
    simp only [rng] at hs ⊢
    split <;> omega
theorem BB_qw {S : SS} {w : Int} (h : BB S) (n : Nat) : BB (qw S w n) := by
  induction n with
  | zero => exact h
  | succ n ih => exact BB_wt ih
end
section
section REF4
variable {l : Launch} {D : va_G} {cA : Nat → ClassId} {A : Nat → Prop} {ad : Ad} {lv : Lw} {V : Vw} {sz : Nat} {S : SS}
def isLt (S : SS) (s : Int) : Prop := S 10 s = S 0 0 ∧ 0 ≤ S 22 s ∧ S 26 (S 22 s) < S 0 0
def okL (S : SS) (s : Int) : Prop := isLt S s → (S 2 0 = 1 → JOK S s) ∧ (S 2 0 ≠ 1 → 0 ≤ nx S (S 9 s) (S 24 0).toNat → S 29 (nx S (S 9 s) (S 24 0).toNat) < 30)
theorem JOK_u17 {S : SS} {s x : Int} (h : JOK S s) : JOK (u2 S 17 x 1) s := by
  simp only [JOK] at h ⊢
  rw [u2_ne (by decide), u2_ne (by decide)]
  exact h
theorem BB_lt1 {S : SS} {s : Int} (h : BB S) (hs : 0 ≤ s ∧ s < 30) (hok : okL S s) : BB (lt1 S s) := by
  simp only [lt1]
  have h17 : BB (u2 S 17 s 1) := BB_u2 h (fun _ _ => Or.inr rfl)
  split
  · rename_i hl
    obtain ⟨o1, o2⟩ := hok hl
    split
    · rename_i h1
      exact BB_jn h17 hs (JOK_u17 (o1 h1))
    · rename_i h1
      have hb := nx_bd S (S 9 s) (S 24 0).toNat
      have hm := h.m
      simp only [bsm] at hm
      simp only [ltT]
      split
      · exact BB_u2 h17 (fun _ _ => Or.inr rfl)
      · rename_i h2
        have h29 := o2 h1 (by omega)
        have hcv := h.cv (c := nx S (S 9 s) (S 24 0).toNat) (by omega) (by omega)
        simp only [bcv] at hcv
        refine BB_u2 (BB_u2 (BB_u2 h17 ?_) ?_) ?_ <;> intro _ _ <;> simp only [rng]
        · exact hs
        · rw [u2_ne (by decide)]; omega
        · omega
  · exact h
def okLs (S : SS) : Prop := ∀ n : Nat, (n : Int) < S 8 0 → okL (lts S n) n
theorem lt1_ne {S : SS} {s : Int} {k : Nat} (h1 : k ≠ 17) (h2 : k ≠ 18) (h3 : k ≠ 22) (h4 : k ≠ 29) (h5 : k ≠ 30) (h6 : k ≠ 31) (h7 : k ≠ 32) (x : Int) : lt1 S s k x = S k x := by
  simp only [lt1, ltT]
  split
  · split
    · rw [jn_ne h6 h7, u2_ne h1]
    · split
      · rw [u2_ne h2, u2_ne h1]
      · rw [u2_ne h3, u2_ne h4, u2_ne h5, u2_ne h1]
  · rfl
theorem lts_ne {S : SS} {k : Nat} (h1 : k ≠ 17) (h2 : k ≠ 18) (h3 : k ≠ 22) (h4 : k ≠ 29) (h5 : k ≠ 30) (h6 : k ≠ 31) (h7 : k ≠ 32) (n : Nat) (x : Int) : lts S n k x = S k x := by
  induction n with
  | zero => rfl
  | succ n ih => rw [lts, lt1_ne h1 h2 h3 h4 h5 h6 h7, ih]
theorem BB_lts {S : SS} (h : BB S) (hok : okLs S) (n : Nat) (hn : (n : Int) ≤ S 8 0) : BB (lts S n) := by
  have hm := h.m
  simp only [bsm] at hm
  induction n with
  | zero => exact h
  | succ n ih => exact BB_lt1 (ih (by omega)) (by omega) (hok n (by omega))
set_option maxRecDepth 100000 in
set_option maxHeartbeats 4000000 in
theorem bd_X6_lates {T S9 : SS} {n : Nat} (hB : BB T) (hn : n < 30) (hok : okL T n) (hk : AW l D cA A ad yX6_lates cX6_lates 3 none rm_X6_lates (PR none (S9) sz) 0 0 lvR (VR (lt1 T n)) sz 132 [some (.inr (some (50, 0))), some (.inl (n : Int)), none] []) : AW l D cA A ad yX6_lates cX6_lates 3 none rm_X6_lates (PR none (S9) sz) 0 0 lvR (VR T) sz 10 [some (.inr (some (50, 0))), some (.inl (n : Int)), none] [] := by
  have hm := hB.m
  simp only [bsm] at hm
  have hsh := hB.sh (s := (n : Int)) (by omega) (by omega)
  simp only [bsh] at hsh
  have h22 : 0 ≤ T 22 n → (0 ≤ T 26 (T 22 n) ∧ T 26 (T 22 n) ≤ 9999) := fun h => (hB.cv h (by omega)).2.1
  have hnx := nx_bd T (T 9 n) (T 24 0).toNat
  have h17 : BB (u2 T 17 n 1) := BB_u2 hB (fun _ _ => Or.inr rfl)
  refine aw_aload_n dX6_lates_10 rfl rfl ?_
  refine rr_getA dX6_lates_11 flX6_33 rfl (by decide) ?_
  refine aw_iload_n dX6_lates_14 rfl rfl ?_
  refine rr_iald (n := 30) dX6_lates_15 rfl rfl rfl (by omega) (by omega) (fun _ => rfl) ?_
  refine aw_aload_n dX6_lates_16 rfl rfl ?_
  refine rr_getS dX6_lates_17 flX6_112 rfl (by decide) (fun _ => rfl) ?_
  refine aw_icmp_ne (tgt := 132) dX6_lates_20 (by decide) (by omega) (by omega) (fun c_20 => ?_) (fun c_20 => ?_)
  · first
    | (refine AW.lsV hk (And.intro rfl (And.intro rfl trivial)) ?_
       congr 1
       rw [lt1, if_neg (by omega)]; done)
    | (refine AW.lsV hk (And.intro rfl (And.intro rfl trivial)) ?_
       congr 1
       rw [lt1, if_pos hlt2, if_pos (by omega)]; done)
    | (refine AW.lsV hk (And.intro rfl (And.intro rfl trivial)) ?_
       congr 1
       rw [lt1, if_pos hlt2, if_neg (by omega), ltT, if_pos (by omega)]; done)
    | (refine AW.lsV hk (And.intro rfl (And.intro rfl trivial)) ?_
       congr 1
       rw [lt1, if_pos hlt2, if_neg (by omega), ltT, if_neg (by omega), u2_ne (k := 17) (k' := 29) (by decide)]; done)
  · refine aw_aload_n dX6_lates_23 rfl rfl ?_
    refine rr_getA dX6_lates_24 flX6_69 rfl (by decide) ?_
    refine aw_iload_n dX6_lates_27 rfl rfl ?_
    refine rr_iald (n := 30) dX6_lates_28 rfl rfl rfl (by omega) (by omega) (fun _ => rfl) ?_
    refine aw_if_lt (tgt := 132) dX6_lates_29 (by decide) (by omega) (fun c_29 => ?_) (fun c_29 => ?_)
    · first
      | (refine AW.lsV hk (And.intro rfl (And.intro rfl trivial)) ?_
         congr 1
         rw [lt1, if_neg (by omega)]; done)
      | (refine AW.lsV hk (And.intro rfl (And.intro rfl trivial)) ?_
         congr 1
         rw [lt1, if_pos hlt2, if_pos (by omega)]; done)
      | (refine AW.lsV hk (And.intro rfl (And.intro rfl trivial)) ?_
         congr 1
         rw [lt1, if_pos hlt2, if_neg (by omega), ltT, if_pos (by omega)]; done)
      | (refine AW.lsV hk (And.intro rfl (And.intro rfl trivial)) ?_
         congr 1
         rw [lt1, if_pos hlt2, if_neg (by omega), ltT, if_neg (by omega), u2_ne (k := 17) (k' := 29) (by decide)]; done)
    · have h22b := h22 (by omega)
      refine aw_aload_n dX6_lates_32 rfl rfl ?_
      refine rr_getA dX6_lates_33 flX6_78 rfl (by decide) ?_
      refine aw_aload_n dX6_lates_36 rfl rfl ?_
      refine rr_getA dX6_lates_37 flX6_69 rfl (by decide) ?_
      refine aw_iload_n dX6_lates_40 rfl rfl ?_
      refine rr_iald (n := 30) dX6_lates_41 rfl rfl rfl (by omega) (by omega) (fun _ => rfl) ?_
      refine rr_iald (n := 12) dX6_lates_42 rfl rfl rfl (by omega) (by omega) (fun _ => rfl) ?_
      refine aw_aload_n dX6_lates_43 rfl rfl ?_
      refine rr_getS dX6_lates_44 flX6_112 rfl (by decide) (fun _ => rfl) ?_
      refine aw_icmp_ge (tgt := 132) dX6_lates_47 (by decide) (by omega) (by omega) (fun c_47 => ?_) (fun c_47 => ?_)
      · first
        | (refine AW.lsV hk (And.intro rfl (And.intro rfl trivial)) ?_
           congr 1
           rw [lt1, if_neg (by omega)]; done)
        | (refine AW.lsV hk (And.intro rfl (And.intro rfl trivial)) ?_
           congr 1
           rw [lt1, if_pos hlt2, if_pos (by omega)]; done)
        | (refine AW.lsV hk (And.intro rfl (And.intro rfl trivial)) ?_
           congr 1
           rw [lt1, if_pos hlt2, if_neg (by omega), ltT, if_pos (by omega)]; done)
        | (refine AW.lsV hk (And.intro rfl (And.intro rfl trivial)) ?_
           congr 1
           rw [lt1, if_pos hlt2, if_neg (by omega), ltT, if_neg (by omega), u2_ne (k := 17) (k' := 29) (by decide)]; done)
      · have hlt2 : T 10 n = T 0 0 ∧ 0 ≤ T 22 n ∧ T 26 (T 22 n) < T 0 0 := ⟨by omega, by omega, by omega⟩
        have ho := hok hlt2
        refine aw_aload_n dX6_lates_50 rfl rfl ?_
        refine rr_getA dX6_lates_51 flX6_54 rfl (by decide) ?_
        refine aw_iload_n dX6_lates_54 rfl rfl ?_
        refine aw_iconst dX6_lates_55 ?_
        refine rr_zast (n := 30) dX6_lates_56 rfl rfl rfl (by omega) (by omega) (Or.inr rfl) ?_
        refine aw_aload_n dX6_lates_57 rfl rfl ?_
        refine rr_getS (S0 := T) dX6_lates_58 flX6_115 rfl (by decide) (fun _ => rfl) ?_
        refine aw_iconst dX6_lates_61 ?_
        refine aw_icmp_ne (tgt := 73) dX6_lates_62 (by decide) (by omega) (by omega) (fun c_62 => ?_) (fun c_62 => ?_)
        · refine aw_aload_n dX6_lates_73 rfl rfl ?_
          refine aw_aload_n dX6_lates_74 rfl rfl ?_
          refine rr_getA dX6_lates_75 flX6_30 rfl (by decide) ?_
          refine aw_iload_n dX6_lates_78 rfl rfl ?_
          refine rr_iald (n := 30) (S0 := T) dX6_lates_79 rfl rfl rfl (by omega) (by omega) (fun _ => rfl) ?_
          refine aw_callV (c_X6_nextConvoy h17 (by omega)) mv_X6_nextConvoy mlX6_129 dX6_lates_80 rfl rfl (by decide) rfl (Nat.le_of_ble_eq_true rfl) rfl ?_
          rintro _ _ _ _ ⟨rfl, rfl, rfl, rfl⟩
          have hr2 : nx (u2 T 17 n 1) (T 9 n) (u2 T 17 n 1 24 0).toNat = nx T (T 9 n) (T 24 0).toNat := nx_congr (S := T) (T := u2 T 17 n 1) rfl (fun _ => rfl) (fun _ => rfl) _ _
          rw [hr2]
          have hcv : 0 ≤ nx T (T 9 n) (T 24 0).toNat → (0 ≤ T 29 (nx T (T 9 n) (T 24 0).toNat) ∧ T 29 (nx T (T 9 n) (T 24 0).toNat) ≤ 30) := fun h => (hB.cv h (by omega)).2.2.2
          refine aw_istore_n dX6_lates_83 rfl (by decide) ?_
          refine aw_iload_n dX6_lates_84 rfl rfl ?_
          refine aw_if_ge (tgt := 98) dX6_lates_85 (by decide) (by omega) (fun c_85 => ?_) (fun c_85 => ?_)
          · have h29 := ho.2 (by omega) (by omega)
            have hcv2 := hcv (by omega)
            refine aw_aload_n dX6_lates_98 rfl rfl ?_
            refine rr_getA dX6_lates_99 flX6_90 rfl (by decide) ?_
            refine aw_bipush dX6_lates_102 (by decide) ?_
            refine aw_iload_n dX6_lates_104 rfl rfl ?_
            refine aw_imul dX6_lates_105 ?_
            refine aw_aload_n dX6_lates_106 rfl rfl ?_
            refine rr_getA dX6_lates_107 flX6_87 rfl (by decide) ?_
            refine aw_iload_n dX6_lates_110 rfl rfl ?_
            refine rr_iald (n := 12) (S0 := T) dX6_lates_111 rfl rfl rfl (by omega) (by omega) (fun _ => rfl) ?_
            refine aw_iadd dX6_lates_112 ?_
            refine aw_iload_n dX6_lates_113 rfl rfl ?_
            refine rr_iast (n := 360) dX6_lates_114 rfl rfl rfl (by omega) (by omega) ?_
            refine aw_aload_n dX6_lates_115 rfl rfl ?_
            refine rr_getA dX6_lates_116 flX6_87 rfl (by decide) ?_
            refine aw_iload_n dX6_lates_119 rfl rfl ?_
            refine aw_dup2 dX6_lates_120 ?_
            refine rr_iald (n := 12) (S0 := T) dX6_lates_121 rfl rfl rfl (by omega) (by omega) (fun _ => rfl) ?_
            refine aw_iconst dX6_lates_122 ?_
            refine aw_iadd dX6_lates_123 ?_
            refine rr_iast (n := 12) dX6_lates_124 rfl rfl rfl (by omega) (by omega) ?_
            refine aw_aload_n dX6_lates_125 rfl rfl ?_
            refine rr_getA dX6_lates_126 flX6_69 rfl (by decide) ?_
            refine aw_iload_n dX6_lates_129 rfl rfl ?_
            refine aw_iload_n dX6_lates_130 rfl rfl ?_
            refine rr_iast (n := 30) dX6_lates_131 rfl rfl rfl (by omega) (by omega) ?_
            first
            | (refine AW.lsV hk (And.intro rfl (And.intro rfl trivial)) ?_
               congr 1
               rw [lt1, if_neg (by omega)]; done)
            | (refine AW.lsV hk (And.intro rfl (And.intro rfl trivial)) ?_
               congr 1
               rw [lt1, if_pos hlt2, if_pos (by omega)]; done)
            | (refine AW.lsV hk (And.intro rfl (And.intro rfl trivial)) ?_
               congr 1
               rw [lt1, if_pos hlt2, if_neg (by omega), ltT, if_pos (by omega)]; done)
            | (refine AW.lsV hk (And.intro rfl (And.intro rfl trivial)) ?_
               congr 1
               rw [lt1, if_pos hlt2, if_neg (by omega), ltT, if_neg (by omega), u2_ne (k := 17) (k' := 29) (by decide)]; done)
          · refine aw_aload_n dX6_lates_88 rfl rfl ?_
            refine rr_getA dX6_lates_89 flX6_57 rfl (by decide) ?_
            refine aw_iload_n dX6_lates_92 rfl rfl ?_
            refine aw_iconst dX6_lates_93 ?_
            refine rr_zast (n := 30) dX6_lates_94 rfl rfl rfl (by omega) (by omega) (Or.inr rfl) ?_
            refine aw_goto (tgt := 132) dX6_lates_95 (by decide) ?_
            first
            | (refine AW.lsV hk (And.intro rfl (And.intro rfl trivial)) ?_
               congr 1
               rw [lt1, if_neg (by omega)]; done)
            | (refine AW.lsV hk (And.intro rfl (And.intro rfl trivial)) ?_
               congr 1
               rw [lt1, if_pos hlt2, if_pos (by omega)]; done)
            | (refine AW.lsV hk (And.intro rfl (And.intro rfl trivial)) ?_
               congr 1
               rw [lt1, if_pos hlt2, if_neg (by omega), ltT, if_pos (by omega)]; done)
            | (refine AW.lsV hk (And.intro rfl (And.intro rfl trivial)) ?_
               congr 1
               rw [lt1, if_pos hlt2, if_neg (by omega), ltT, if_neg (by omega), u2_ne (k := 17) (k' := 29) (by decide)]; done)
        · refine aw_aload_n dX6_lates_65 rfl rfl ?_
          refine aw_iload_n dX6_lates_66 rfl rfl ?_
          refine aw_callV (c_X6_joins (by omega) (by rw [u2_ne (by decide)]; omega) (JOK_u17 (ho.1 (by omega)))) mv_X6_joins mlX6_125 dX6_lates_67 rfl rfl (by decide) rfl (Nat.le_of_ble_eq_true rfl) rfl ?_
          rintro _ _ _ _ ⟨rfl, rfl, rfl, rfl⟩
          refine aw_goto (tgt := 132) dX6_lates_70 (by decide) ?_
          first
          | (refine AW.lsV hk (And.intro rfl (And.intro rfl trivial)) ?_
             congr 1
             rw [lt1, if_neg (by omega)]; done)
          | (refine AW.lsV hk (And.intro rfl (And.intro rfl trivial)) ?_
             congr 1
             rw [lt1, if_pos hlt2, if_pos (by omega)]; done)
          | (refine AW.lsV hk (And.intro rfl (And.intro rfl trivial)) ?_
             congr 1
             rw [lt1, if_pos hlt2, if_neg (by omega), ltT, if_pos (by omega)]; done)
          | (refine AW.lsV hk (And.intro rfl (And.intro rfl trivial)) ?_
             congr 1
             rw [lt1, if_pos hlt2, if_neg (by omega), ltT, if_neg (by omega), u2_ne (k := 17) (k' := 29) (by decide)]; done)
set_option maxRecDepth 100000 in
set_option maxHeartbeats 4000000 in
theorem lp_X6_lates {S9 : SS} (hB : BB S) (hok : okLs S) (h9 : S9 = lts S (S 8 0).toNat) : ∀ (f n : Nat), n + f = (S 8 0).toNat → AW l D cA A ad yX6_lates cX6_lates 3 none rm_X6_lates (PR none (S9) sz) 0 0 lvR (VR (lts S n)) sz 2 [some (.inr (some (50, 0))), some (.inl (n : Int)), none] [] := by
  have hm := hB.m
  simp only [bsm] at hm
  have e8 : ∀ n : Nat, lts S n 8 0 = S 8 0 := fun n => lts_ne (by decide) (by decide) (by decide) (by decide) (by decide) (by decide) (by decide) _ _
  intro f
  induction f with
  | zero =>
    intro n hn
    have e := e8 n
    refine aw_iload_n dX6_lates_2 rfl rfl ?_
    refine aw_aload_n dX6_lates_3 rfl rfl ?_
    refine rr_getS dX6_lates_4 flX6_119 rfl (by decide) (fun _ => rfl) ?_
    refine aw_icmp_ge (tgt := 138) dX6_lates_7 (by decide) (by omega) (by omega) (fun c_7 => ?_) (fun c_7 => absurd c_7 (by omega))
    refine aw_vret dX6_lates_138 rfl (Nat.zero_le _) (Nat.zero_le _) ?_
    rw [h9, show (S 8 0).toNat = n by omega]
    exact ⟨rfl, rfl, rfl, rfl⟩
  | succ f ih =>
    intro n hn
    have e := e8 n
    have ih2 := ih (n + 1) (by omega)
    refine aw_iload_n dX6_lates_2 rfl rfl ?_
    refine aw_aload_n dX6_lates_3 rfl rfl ?_
    refine rr_getS dX6_lates_4 flX6_119 rfl (by decide) (fun _ => rfl) ?_
    refine aw_icmp_ge (tgt := 138) dX6_lates_7 (by decide) (by omega) (by omega) (fun c_7 => absurd c_7 (by omega)) (fun c_7 => ?_)
    refine bd_X6_lates (BB_lts hB hok n (by omega)) (by omega) (hok n (by omega)) ?_
    refine aw_iinc dX6_lates_132 rfl (by decide) ?_
    refine aw_goto (tgt := 2) dX6_lates_135 (by decide) ?_
    exact AW.lss ih2 (And.intro rfl (And.intro rfl trivial))
set_option maxRecDepth 100000 in
set_option maxHeartbeats 4000000 in
theorem c_X6_lates (hB : BB S) (hok : okLs S) : CT l D cA A ad yX6_lates cX6_lates 3 none rm_X6_lates [.inr (some (50, 0))] lvR (VR S) sz (PR none (lts S (S 8 0).toNat) sz) := by
  refine CT.of2 [some (.inr (some (50, 0))), none, none] (by decide) (Nat.le_of_ble_eq_true rfl) rfl ?_
  refine aw_iconst dX6_lates_0 ?_
  refine aw_istore_n dX6_lates_1 rfl (by decide) ?_
  exact AW.lss (lp_X6_lates hB hok rfl (S 8 0).toNat 0 (by omega)) (And.intro rfl (And.intro rfl trivial))
set_option maxRecDepth 100000 in
set_option maxHeartbeats 4000000 in
theorem c_X6_goes {s : Int} {sec : Nat} (hB : BB S) (hs : 0 ≤ s ∧ s < 30) (hs2 : sec < 8) : CT l D cA A ad yX6_goes cX6_goes 6 (some .boolean) rm_X6_goes [.inr (some (50, 0)), .inl s, .inl ((sec : Int))] lvR (VR S) sz (PR (some (.inl (b2i (gos S s sec).1))) ((gos S s sec).2) sz) := by
  refine CT.of2 [some (.inr (some (50, 0))), some (.inl s), some (.inl ((sec : Int))), none, none, none] (by decide) (Nat.le_of_ble_eq_true rfl) rfl ?_
  have hm := hB.m
  simp only [bsm] at hm
  have hsh := hB.sh hs.1 hs.2
  simp only [bsh] at hsh
  have hi := hB.iM (a := 2 * (sec : Int) + S 9 s) (by omega) (by omega)
  rcases hsh.1 with hw | hw
  · refine aw_aload_n dX6_goes_0 rfl rfl ?_
    refine rr_getA dX6_goes_1 flX6_30 rfl (by decide) ?_
    refine aw_iload_n dX6_goes_4 rfl rfl ?_
    refine rr_iald (n := 30) dX6_goes_5 rfl rfl rfl (by omega) (by omega) (fun _ => rfl) ?_
    refine aw_istore_n dX6_goes_6 rfl (by decide) ?_
    refine aw_iload_n dX6_goes_7 rfl rfl ?_
    refine aw_iload_n dX6_goes_8 rfl rfl ?_
    refine aw_if_ne (tgt := 17) dX6_goes_9 (by decide) (by omega) (fun c_9 => absurd c_9 (by omega)) (fun c_9 => ?_)
    refine aw_bipush dX6_goes_12 (by decide) ?_
    refine aw_goto (tgt := 18) dX6_goes_14 (by decide) ?_
    refine aw_icmp_ne (tgt := 47) dX6_goes_18 (by decide) (by omega) (by omega) (fun c_18 => ?_) (fun c_18 => ?_)
    · refine aw_iload_n dX6_goes_47 rfl rfl ?_
      refine aw_if_ne (tgt := 57) dX6_goes_48 (by decide) (by omega) (fun c_48 => absurd c_48 (by omega)) (fun c_48 => ?_)
      refine aw_iload_n dX6_goes_51 rfl rfl ?_
      refine aw_iconst dX6_goes_52 ?_
      refine aw_iadd dX6_goes_53 ?_
      refine aw_goto (tgt := 60) dX6_goes_54 (by decide) ?_
      rw [show (sec : Int) + 1 = ((sec + 1 : Nat) : Int) by omega]
      refine aw_istore dX6_goes_60 (by decide) ?_
      refine aw_aload_n dX6_goes_62 rfl rfl ?_
      refine aw_iload_n dX6_goes_63 rfl rfl ?_
      refine aw_iload dX6_goes_64 rfl ?_
      refine aw_callV (c_X6_cause (sec := sec + 1) hB hs (by omega)) mv_X6_cause mlX6_148 dX6_goes_66 rfl rfl (by decide) rfl (Nat.le_of_ble_eq_true rfl) rfl ?_
      rintro _ _ _ _ ⟨rfl, rfl, rfl, rfl⟩
      have hcb := cause_bd S s (sec + 1)
      refine aw_istore dX6_goes_69 (by decide) ?_
      refine aw_iload dX6_goes_71 rfl ?_
      refine aw_if_lt (tgt := 94) dX6_goes_73 (by decide) (by omega) (fun c_73 => ?_) (fun c_73 => ?_)
      · refine aw_aload_n dX6_goes_94 rfl rfl ?_
        refine aw_iload_n dX6_goes_95 rfl rfl ?_
        refine aw_iload_n dX6_goes_96 rfl rfl ?_
        refine aw_callV (c_X6_leaves (by omega) (by omega) (by omega)) mv_X6_leaves mlX6_144 dX6_goes_97 rfl rfl (by decide) rfl (Nat.le_of_ble_eq_true rfl) rfl ?_
        rintro _ _ _ _ ⟨rfl, rfl, rfl, rfl⟩
        refine aw_aload_n dX6_goes_100 rfl rfl ?_
        refine aw_iload_n dX6_goes_101 rfl rfl ?_
        refine aw_iload dX6_goes_102 rfl ?_
        have hi2 := hB.iM (a := 2 * ((sec + 1 : Nat) : Int) + S 9 s) (by omega) (by omega)
        refine aw_callV (c_X6_enters hs (by rw [lvs_ne (by decide) (by decide)]; omega) (by rw [lvs_ne (by decide) (by decide)]; omega) (by omega) (by rw [lvs_ne (k := 9) (by decide) (by decide), lvs_33, if_neg (by omega)]; omega)) mv_X6_enters mlX6_152 dX6_goes_104 rfl rfl (by decide) rfl (Nat.le_of_ble_eq_true rfl) rfl ?_
        rintro _ _ _ _ ⟨rfl, rfl, rfl, rfl⟩
        refine aw_iconst dX6_goes_107 ?_
        refine aw_zret dX6_goes_108 rfl (Or.inr rfl) (Nat.zero_le _) (Nat.zero_le _) ?_
        have e : gos S s sec = (true, ent (lvs S sec (S 9 s)) s ((sec + 1 : Nat) : Int)) := by
          rw [gos, if_neg (by rw [if_pos (by omega)]; omega), if_pos (c := S 9 s = 0) (by omega), if_neg (by omega), if_pos (c := S 9 s = 0) (by omega)]
          rfl
        rw [e]
        exact ⟨rfl, rfl, rfl, rfl⟩
      · refine aw_aload_n dX6_goes_76 rfl rfl ?_
        refine rr_getA dX6_goes_77 flX6_72 rfl (by decide) ?_
        refine aw_bipush dX6_goes_80 (by decide) ?_
        refine aw_iload_n dX6_goes_82 rfl rfl ?_
        refine aw_imul dX6_goes_83 ?_
        refine aw_iload dX6_goes_84 rfl ?_
        refine aw_iadd dX6_goes_86 ?_
        refine aw_dup2 dX6_goes_87 ?_
        refine rr_iald (n := 210) dX6_goes_88 rfl rfl rfl (by omega) (by omega) (fun _ => rfl) ?_
        refine aw_iconst dX6_goes_89 ?_
        refine aw_iadd dX6_goes_90 ?_
        refine rr_iast (n := 210) dX6_goes_91 rfl rfl rfl (by omega) (by omega) ?_
        refine aw_iconst dX6_goes_92 ?_
        refine aw_zret dX6_goes_93 rfl (Or.inl rfl) (Nat.zero_le _) (Nat.zero_le _) ?_
        have e : gos S s sec = (false, wt S (7 * s + cause S s (sec + 1))) := by
          rw [gos, if_neg (by rw [if_pos (by omega)]; omega), if_pos (c := S 9 s = 0) (by omega), if_pos (by omega)]
        rw [e]
        exact ⟨rfl, rfl, rfl, rfl⟩
    · refine aw_aload_n dX6_goes_21 rfl rfl ?_
      refine aw_iload_n dX6_goes_22 rfl rfl ?_
      refine aw_iload_n dX6_goes_23 rfl rfl ?_
      refine aw_callV (c_X6_leaves (by omega) (by omega) (by omega)) mv_X6_leaves mlX6_144 dX6_goes_24 rfl rfl (by decide) rfl (Nat.le_of_ble_eq_true rfl) rfl ?_
      rintro _ _ _ _ ⟨rfl, rfl, rfl, rfl⟩
      refine aw_aload_n dX6_goes_27 rfl rfl ?_
      refine rr_getA dX6_goes_28 flX6_48 rfl (by decide) ?_
      refine aw_iload_n dX6_goes_31 rfl rfl ?_
      refine aw_bipush dX6_goes_32 (by decide) ?_
      refine rr_iast (n := 30) dX6_goes_34 rfl rfl rfl (by omega) (by omega) ?_
      refine aw_aload_n dX6_goes_35 rfl rfl ?_
      refine rr_getA dX6_goes_36 flX6_63 rfl (by decide) ?_
      refine aw_iload_n dX6_goes_39 rfl rfl ?_
      refine aw_aload_n dX6_goes_40 rfl rfl ?_
      refine rr_getS (S0 := S) dX6_goes_41 flX6_112 rfl (by decide) (fun _ => by rw [u2_ne (by decide), lvs_ne (by decide) (by decide)]) ?_
      refine rr_iast (n := 30) dX6_goes_44 rfl rfl rfl (by omega) (by omega) ?_
      refine aw_iconst dX6_goes_45 ?_
      refine aw_zret dX6_goes_46 rfl (Or.inr rfl) (Nat.zero_le _) (Nat.zero_le _) ?_
      have e : gos S s sec = (true, goE S sec s) := by
        rw [gos, if_pos (by rw [if_pos (by omega)]; omega)]
      rw [e]
      exact ⟨rfl, rfl, rfl, rfl⟩
  · refine aw_aload_n dX6_goes_0 rfl rfl ?_
    refine rr_getA dX6_goes_1 flX6_30 rfl (by decide) ?_
    refine aw_iload_n dX6_goes_4 rfl rfl ?_
    refine rr_iald (n := 30) dX6_goes_5 rfl rfl rfl (by omega) (by omega) (fun _ => rfl) ?_
    refine aw_istore_n dX6_goes_6 rfl (by decide) ?_
    refine aw_iload_n dX6_goes_7 rfl rfl ?_
    refine aw_iload_n dX6_goes_8 rfl rfl ?_
    refine aw_if_ne (tgt := 17) dX6_goes_9 (by decide) (by omega) (fun c_9 => ?_) (fun c_9 => absurd c_9 (by omega))
    refine aw_iconst dX6_goes_17 ?_
    refine aw_icmp_ne (tgt := 47) dX6_goes_18 (by decide) (by omega) (by omega) (fun c_18 => ?_) (fun c_18 => ?_)
    · refine aw_iload_n dX6_goes_47 rfl rfl ?_
      refine aw_if_ne (tgt := 57) dX6_goes_48 (by decide) (by omega) (fun c_48 => ?_) (fun c_48 => absurd c_48 (by omega))
      refine aw_iload_n dX6_goes_57 rfl rfl ?_
      refine aw_iconst dX6_goes_58 ?_
      refine aw_isub dX6_goes_59 ?_
      rw [show (sec : Int) - 1 = ((sec - 1 : Nat) : Int) by omega]
      refine aw_istore dX6_goes_60 (by decide) ?_
      refine aw_aload_n dX6_goes_62 rfl rfl ?_
      refine aw_iload_n dX6_goes_63 rfl rfl ?_
      refine aw_iload dX6_goes_64 rfl ?_
      refine aw_callV (c_X6_cause (sec := sec - 1) hB hs (by omega)) mv_X6_cause mlX6_148 dX6_goes_66 rfl rfl (by decide) rfl (Nat.le_of_ble_eq_true rfl) rfl ?_
      rintro _ _ _ _ ⟨rfl, rfl, rfl, rfl⟩
      have hcb := cause_bd S s (sec - 1)
      refine aw_istore dX6_goes_69 (by decide) ?_
      refine aw_iload dX6_goes_71 rfl ?_
      refine aw_if_lt (tgt := 94) dX6_goes_73 (by decide) (by omega) (fun c_73 => ?_) (fun c_73 => ?_)
      · refine aw_aload_n dX6_goes_94 rfl rfl ?_
        refine aw_iload_n dX6_goes_95 rfl rfl ?_
        refine aw_iload_n dX6_goes_96 rfl rfl ?_
        refine aw_callV (c_X6_leaves (by omega) (by omega) (by omega)) mv_X6_leaves mlX6_144 dX6_goes_97 rfl rfl (by decide) rfl (Nat.le_of_ble_eq_true rfl) rfl ?_
        rintro _ _ _ _ ⟨rfl, rfl, rfl, rfl⟩
        refine aw_aload_n dX6_goes_100 rfl rfl ?_
        refine aw_iload_n dX6_goes_101 rfl rfl ?_
        refine aw_iload dX6_goes_102 rfl ?_
        have hi2 := hB.iM (a := 2 * ((sec - 1 : Nat) : Int) + S 9 s) (by omega) (by omega)
        refine aw_callV (c_X6_enters hs (by rw [lvs_ne (by decide) (by decide)]; omega) (by rw [lvs_ne (by decide) (by decide)]; omega) (by omega) (by rw [lvs_ne (k := 9) (by decide) (by decide), lvs_33, if_neg (by omega)]; omega)) mv_X6_enters mlX6_152 dX6_goes_104 rfl rfl (by decide) rfl (Nat.le_of_ble_eq_true rfl) rfl ?_
        rintro _ _ _ _ ⟨rfl, rfl, rfl, rfl⟩
        refine aw_iconst dX6_goes_107 ?_
        refine aw_zret dX6_goes_108 rfl (Or.inr rfl) (Nat.zero_le _) (Nat.zero_le _) ?_
        have e : gos S s sec = (true, ent (lvs S sec (S 9 s)) s ((sec - 1 : Nat) : Int)) := by
          rw [gos, if_neg (by rw [if_neg (by omega)]; omega), if_neg (c := S 9 s = 0) (by omega), if_neg (by omega), if_neg (c := S 9 s = 0) (by omega)]
          rw [show (sec : Int) - 1 = ((sec - 1 : Nat) : Int) by omega]
        rw [e]
        exact ⟨rfl, rfl, rfl, rfl⟩
      · refine aw_aload_n dX6_goes_76 rfl rfl ?_
        refine rr_getA dX6_goes_77 flX6_72 rfl (by decide) ?_
        refine aw_bipush dX6_goes_80 (by decide) ?_
        refine aw_iload_n dX6_goes_82 rfl rfl ?_
        refine aw_imul dX6_goes_83 ?_
        refine aw_iload dX6_goes_84 rfl ?_
        refine aw_iadd dX6_goes_86 ?_
        refine aw_dup2 dX6_goes_87 ?_
        refine rr_iald (n := 210) dX6_goes_88 rfl rfl rfl (by omega) (by omega) (fun _ => rfl) ?_
        refine aw_iconst dX6_goes_89 ?_
        refine aw_iadd dX6_goes_90 ?_
        refine rr_iast (n := 210) dX6_goes_91 rfl rfl rfl (by omega) (by omega) ?_
        refine aw_iconst dX6_goes_92 ?_
        refine aw_zret dX6_goes_93 rfl (Or.inl rfl) (Nat.zero_le _) (Nat.zero_le _) ?_
        have e : gos S s sec = (false, wt S (7 * s + cause S s (sec - 1))) := by
          rw [gos, if_neg (by rw [if_neg (by omega)]; omega), if_neg (c := S 9 s = 0) (by omega), if_pos (by omega)]
        rw [e]
        exact ⟨rfl, rfl, rfl, rfl⟩
    · refine aw_aload_n dX6_goes_21 rfl rfl ?_
      refine aw_iload_n dX6_goes_22 rfl rfl ?_
      refine aw_iload_n dX6_goes_23 rfl rfl ?_
      refine aw_callV (c_X6_leaves (by omega) (by omega) (by omega)) mv_X6_leaves mlX6_144 dX6_goes_24 rfl rfl (by decide) rfl (Nat.le_of_ble_eq_true rfl) rfl ?_
      rintro _ _ _ _ ⟨rfl, rfl, rfl, rfl⟩
      refine aw_aload_n dX6_goes_27 rfl rfl ?_
      refine rr_getA dX6_goes_28 flX6_48 rfl (by decide) ?_
      refine aw_iload_n dX6_goes_31 rfl rfl ?_
      refine aw_bipush dX6_goes_32 (by decide) ?_
      refine rr_iast (n := 30) dX6_goes_34 rfl rfl rfl (by omega) (by omega) ?_
      refine aw_aload_n dX6_goes_35 rfl rfl ?_
      refine rr_getA dX6_goes_36 flX6_63 rfl (by decide) ?_
      refine aw_iload_n dX6_goes_39 rfl rfl ?_
      refine aw_aload_n dX6_goes_40 rfl rfl ?_
      refine rr_getS (S0 := S) dX6_goes_41 flX6_112 rfl (by decide) (fun _ => by rw [u2_ne (by decide), lvs_ne (by decide) (by decide)]) ?_
      refine rr_iast (n := 30) dX6_goes_44 rfl rfl rfl (by omega) (by omega) ?_
      refine aw_iconst dX6_goes_45 ?_
      refine aw_zret dX6_goes_46 rfl (Or.inr rfl) (Nat.zero_le _) (Nat.zero_le _) ?_
      have e : gos S s sec = (true, goE S sec s) := by
        rw [gos, if_pos (by rw [if_neg (by omega)]; omega)]
      rw [e]
      exact ⟨rfl, rfl, rfl, rfl⟩
end REF4
end
section
section REF5
variable {l : Launch} {D : va_G} {cA : Nat → ClassId} {A : Nat → Prop} {ad : Ad} {lv : Lw} {V : Vw} {sz : Nat} {S : SS}
/-- the way through a section is clear: bounds hold all along, and the ships there are of that way -/
def okM (sec : Nat) (w : Int) : Nat → SS → Nat → Bool → Prop
  | 0, S, _, _ => BB S
  | f + 1, S, k, stuck => BB S ∧ ((k : Int) < S 33 (2 * sec + w) → S 9 (S 34 (30 * (2 * sec + w) + k)) = w ∧
      (if (stuck || decide (0 < S 21 (S 34 (30 * (2 * sec + w) + k)))) = true then okM sec w f (wt S (7 * S 34 (30 * (2 * sec + w) + k))) (k + 1) true
      else if tk S (S 34 (30 * (2 * sec + w) + k)) 16 (S 34 (30 * (2 * sec + w) + k)) = 0 then
        (if k = 0 then okM sec w f (gos (tk S (S 34 (30 * (2 * sec + w) + k))) (S 34 (30 * (2 * sec + w) + k)) sec).2 (if (gos (tk S (S 34 (30 * (2 * sec + w) + k))) (S 34 (30 * (2 * sec + w) + k)) sec).1 = true then 0 else 1) false
        else okM sec w f (wt (tk S (S 34 (30 * (2 * sec + w) + k))) (7 * S 34 (30 * (2 * sec + w) + k) + 6)) (k + 1) false)
      else okM sec w f (tk S (S 34 (30 * (2 * sec + w) + k))) (k + 1) false))
theorem okM.bb {sec : Nat} {w : Int} {f : Nat} {S : SS} {k : Nat} {stuck : Bool} (h : okM sec w f S k stuck) : BB S := by
  cases f with
  | zero => exact h
  | succ f => exact h.1
theorem tk_ne {S : SS} {s : Int} {k : Nat} (h : k ≠ 16) (x : Int) : tk S s k x = S k x := by simp [tk, u2, h]
theorem tk_16 (S : SS) (s : Int) : tk S s 16 s = S 16 s - (if 0 < S 16 s then 1 else 0) := by simp only [tk]; rw [u2_self]
theorem ent_33 (S : SS) (s sec x : Int) : ent S s sec 33 x = if x = 2 * sec + S 9 s then S 33 (2 * sec + S 9 s) + 1 else S 33 x := by
  simp only [ent]
  rw [u2_ne (by decide), u2_ne (by decide), u2_ne (by decide), u2_at, u2_ne (by decide)]
/-- how many are left in a section when its first has been asked to go -/
theorem gos_33 {S : SS} {s : Int} {sec : Nat} (h9 : S 9 s = 0 ∨ S 9 s = 1) (hs2 : sec < 8) : (gos S s sec).2 33 (2 * (sec : Int) + S 9 s) = S 33 (2 * (sec : Int) + S 9 s) - b2i (gos S s sec).1 := by
  by_cases h1 : (sec : Int) = (if S 9 s = 0 then 7 else 0)
  · have e : gos S s sec = (true, goE S sec s) := by rw [gos, if_pos h1]
    rw [e]
    show goE S sec s 33 _ = _
    simp only [goE]
    rw [u2_ne (by decide), u2_ne (by decide), lvs_33, if_pos rfl]
    rfl
  · by_cases h2 : 0 ≤ cause S s (if S 9 s = 0 then sec + 1 else sec - 1)
    · have e : gos S s sec = (false, wt S (7 * s + cause S s (if S 9 s = 0 then sec + 1 else sec - 1))) := by rw [gos, if_neg h1, if_pos h2]
      rw [e]
      show wt S (7 * s + cause S s (if S 9 s = 0 then sec + 1 else sec - 1)) 33 _ = _ - b2i false
      rw [wt_ne (by decide), b2i_f, Int.sub_zero]
    · have e : gos S s sec = (true, ent (lvs S sec (S 9 s)) s (if S 9 s = 0 then (sec : Int) + 1 else (sec : Int) - 1)) := by rw [gos, if_neg h1, if_neg h2]
      rw [e]
      show ent _ _ _ 33 _ = _ - b2i true
      rw [ent_33, lvs_ne (k := 9) (by decide) (by decide), if_neg, lvs_33, if_pos rfl]
      · rfl
      · split <;> omega
set_option maxRecDepth 100000 in
set_option maxHeartbeats 4000000 in
theorem lp_X6_moves {S9 : SS} {sec : Nat} {w : Int} (hs2 : sec < 8) (hw : w = 0 ∨ w = 1) : ∀ (f : Nat) (S : SS) (k : Nat) (stuck : Bool), okM sec w f S k stuck → k ≤ 3 → S 33 (2 * (sec : Int) + w) - k ≤ f → mvF sec w f S k stuck = S9 → AW l D cA A ad yX6_moves cX6_moves 8 none rm_X6_moves (PR none (S9) sz) 0 0 lvR (VR S) sz 12 [some (.inr (some (50, 0))), some (.inl (sec : Int)), some (.inl w), some (.inl (2 * (sec : Int) + w)), some (.inl (k : Int)), some (.inl (b2i stuck)), none, none] [] := by
  intro f
  induction f with
  | zero =>
    intro S k stuck hok hk3 hf he
    have hB := hok.bb
    have hi := hB.iM (a := 2 * (sec : Int) + w) (by omega) (by omega)
    refine aw_iload dX6_moves_12 rfl ?_
    refine aw_aload_n dX6_moves_14 rfl rfl ?_
    refine rr_getA dX6_moves_15 flX6_99 rfl (by decide) ?_
    refine aw_iload_n dX6_moves_18 rfl rfl ?_
    refine rr_iald (n := 16) dX6_moves_19 rfl rfl rfl (by omega) (by omega) (fun _ => rfl) ?_
    refine aw_icmp_ge (tgt := 181) dX6_moves_20 (by decide) (by omega) (by omega) (fun c_20 => ?_) (fun c_20 => absurd c_20 (by omega))
    refine aw_vret dX6_moves_181 rfl (Nat.zero_le _) (Nat.zero_le _) ?_
    rw [← he]
    exact ⟨rfl, rfl, rfl, rfl⟩
  | succ f ih =>
    intro S k stuck hok hk3 hf he
    have hB := hok.bb
    have hi := hB.iM (a := 2 * (sec : Int) + w) (by omega) (by omega)
    have hx := b2i_rg stuck
    refine aw_iload dX6_moves_12 rfl ?_
    refine aw_aload_n dX6_moves_14 rfl rfl ?_
    refine rr_getA dX6_moves_15 flX6_99 rfl (by decide) ?_
    refine aw_iload_n dX6_moves_18 rfl rfl ?_
    refine rr_iald (n := 16) dX6_moves_19 rfl rfl rfl (by omega) (by omega) (fun _ => rfl) ?_
    refine aw_icmp_ge (tgt := 181) dX6_moves_20 (by decide) (by omega) (by omega) (fun c_20 => ?_) (fun c_20 => ?_)
    · refine aw_vret dX6_moves_181 rfl (Nat.zero_le _) (Nat.zero_le _) ?_
      simp only [mvF] at he
      rw [if_neg (by omega)] at he
      rw [← he]
      exact ⟨rfl, rfl, rfl, rfl⟩
    · have hins := hB.ins (x := 30 * (2 * (sec : Int) + w) + k) (by omega) (by omega)
      obtain ⟨h9, hok⟩ := hok.2 c_20
      simp only [mvF] at he
      rw [if_pos c_20] at he
      refine aw_aload_n dX6_moves_23 rfl rfl ?_
      refine rr_getA dX6_moves_24 flX6_102 rfl (by decide) ?_
      refine aw_bipush dX6_moves_27 (by decide) ?_
      refine aw_iload_n dX6_moves_29 rfl rfl ?_
      refine aw_imul dX6_moves_30 ?_
      refine aw_iload dX6_moves_31 rfl ?_
      refine aw_iadd dX6_moves_33 ?_
      refine rr_iald (n := 480) dX6_moves_34 rfl rfl rfl (by omega) (by omega) (fun _ => rfl) ?_
      generalize hse : S 34 (30 * (2 * (sec : Int) + w) + k) = s at h9 hok he hins ⊢
      have hsh := hB.sh hins.1 hins.2
      simp only [bsh] at hsh
      refine aw_istore dX6_moves_35 (by decide) ?_
      refine aw_iload dX6_moves_37 rfl ?_
      refine aw_if_ne (tgt := 52) dX6_moves_39 (by decide) (by omega) (fun c_39 => ?_) (fun c_39 => ?_)
      · have hst : (stuck || decide (0 < S 21 s)) = true := by rw [b2i_pos c_39]; rfl
        rw [if_pos hst] at hok he
        refine aw_iconst dX6_moves_52 ?_
        refine aw_goto (tgt := 57) dX6_moves_53 (by decide) ?_
        refine aw_istore dX6_moves_57 (by decide) ?_
        refine aw_iconst dX6_moves_59 ?_
        refine aw_istore dX6_moves_60 (by decide) ?_
        refine aw_iload dX6_moves_62 rfl ?_
        refine aw_if_eq (tgt := 84) dX6_moves_64 (by decide) (by omega) (fun c_64 => absurd c_64 (by decide)) (fun _ => ?_)
        refine aw_aload_n dX6_moves_67 rfl rfl ?_
        refine rr_getA dX6_moves_68 flX6_72 rfl (by decide) ?_
        refine aw_bipush dX6_moves_71 (by decide) ?_
        refine aw_iload dX6_moves_73 rfl ?_
        refine aw_imul dX6_moves_75 ?_
        refine aw_dup2 dX6_moves_76 ?_
        refine rr_iald (n := 210) dX6_moves_77 rfl rfl rfl (by omega) (by omega) (fun _ => rfl) ?_
        refine aw_iconst dX6_moves_78 ?_
        refine aw_iadd dX6_moves_79 ?_
        refine rr_iast (n := 210) dX6_moves_80 rfl rfl rfl (by omega) (by omega) ?_
        refine aw_goto (tgt := 163) dX6_moves_81 (by decide) ?_
        refine aw_iload dX6_moves_163 rfl ?_
        refine aw_iload dX6_moves_165 rfl ?_
        refine aw_if_eq (tgt := 174) dX6_moves_167 (by decide) (by omega) (fun _ => ?_) (fun c_167 => absurd c_167 (by decide))
        refine aw_iconst dX6_moves_174 ?_
        refine aw_iadd dX6_moves_175 ?_
        refine aw_istore dX6_moves_176 (by decide) ?_
        refine aw_goto (tgt := 12) dX6_moves_178 (by decide) ?_
        first
        | (exfalso; omega)
        | (exact AW.lss (ih (wt S (7 * s)) (k + 1) true hok (by omega) (by rw [wt_ne (by decide)]; omega) he) (And.intro rfl (And.intro rfl (And.intro rfl (And.intro rfl (And.intro rfl (And.intro rfl trivial)))))))
        | (exact AW.lss (ih (tk S s) (k + 1) false hok (by omega) (by rw [tk_ne (by decide)]; omega) he) (And.intro rfl (And.intro rfl (And.intro rfl (And.intro rfl (And.intro rfl (And.intro rfl trivial)))))))
        | (exact AW.lss (ih (wt (tk S s) (7 * s + 6)) (k + 1) false hok (by omega) (by rw [wt_ne (by decide), tk_ne (by decide)]; omega) he) (And.intro rfl (And.intro rfl (And.intro rfl (And.intro rfl (And.intro rfl (And.intro rfl trivial)))))))
        | (exact AW.lss (ih (gos (tk S s) s sec).2 0 false hok (by omega) (by rw [hg33]; omega) he) (And.intro rfl (And.intro rfl (And.intro rfl (And.intro rfl (And.intro rfl (And.intro rfl trivial)))))))
        | (exact AW.lss (ih (gos (tk S s) s sec).2 1 false hok (by omega) (by rw [hg33]; omega) he) (And.intro rfl (And.intro rfl (And.intro rfl (And.intro rfl (And.intro rfl (And.intro rfl trivial)))))))
      · refine aw_aload_n dX6_moves_42 rfl rfl ?_
        refine rr_getA dX6_moves_43 flX6_66 rfl (by decide) ?_
        refine aw_iload dX6_moves_46 rfl ?_
        refine rr_iald (n := 30) dX6_moves_48 rfl rfl rfl (by omega) (by omega) (fun _ => rfl) ?_
        refine aw_if_le (tgt := 56) dX6_moves_49 (by decide) (by omega) (fun c_49 => ?_) (fun c_49 => ?_)
        · have hst : ¬ ((stuck || decide (0 < S 21 s)) = true) := by rw [b2i_zero c_39, decide_eq_false (by omega)]; decide
          rw [if_neg hst] at hok he
          refine aw_iconst dX6_moves_56 ?_
          refine aw_istore dX6_moves_57 (by decide) ?_
          refine aw_iconst dX6_moves_59 ?_
          refine aw_istore dX6_moves_60 (by decide) ?_
          refine aw_iload dX6_moves_62 rfl ?_
          refine aw_if_eq (tgt := 84) dX6_moves_64 (by decide) (by omega) (fun _ => ?_) (fun c_64 => absurd c_64 (by decide))
          refine aw_aload_n dX6_moves_84 rfl rfl ?_
          refine rr_getA dX6_moves_85 flX6_51 rfl (by decide) ?_
          refine aw_iload dX6_moves_88 rfl ?_
          refine aw_dup2 dX6_moves_90 ?_
          refine rr_iald (n := 30) dX6_moves_91 rfl rfl rfl (by omega) (by omega) (fun _ => rfl) ?_
          refine aw_aload_n dX6_moves_92 rfl rfl ?_
          refine rr_getA dX6_moves_93 flX6_51 rfl (by decide) ?_
          refine aw_iload dX6_moves_96 rfl ?_
          refine rr_iald (n := 30) dX6_moves_98 rfl rfl rfl (by omega) (by omega) (fun _ => rfl) ?_
          refine aw_if_le (tgt := 106) dX6_moves_99 (by decide) (by omega) (fun c_99 => ?_) (fun c_99 => ?_)
          · refine aw_iconst dX6_moves_106 ?_
            refine aw_isub dX6_moves_107 ?_
            refine rr_iast (n := 30) dX6_moves_108 rfl rfl rfl (by omega) (by omega) ?_
            first | (rw [show u2 S 16 s (S 16 s - 1) = tk S s by rw [tk, if_pos (by omega)]]) | (rw [show u2 S 16 s (S 16 s - 0) = tk S s by rw [tk, if_neg (by omega)]])
            have htk := tk_16 S s
            have hb16 : Rg (tk S s 16 s) := by rw [htk]; split <;> omega
            refine aw_aload_n dX6_moves_109 rfl rfl ?_
            refine rr_getA dX6_moves_110 flX6_51 rfl (by decide) ?_
            refine aw_iload dX6_moves_113 rfl ?_
            refine rr_iald (n := 30) (S0 := tk S s) dX6_moves_115 rfl rfl rfl (by omega) (by omega) (fun _ => rfl) ?_
            refine aw_if_ne (tgt := 163) dX6_moves_116 (by decide) (by omega) (fun c_116 => ?_) (fun c_116 => ?_)
            · rw [if_neg c_116] at hok he
              refine aw_iload dX6_moves_163 rfl ?_
              refine aw_iload dX6_moves_165 rfl ?_
              refine aw_if_eq (tgt := 174) dX6_moves_167 (by decide) (by omega) (fun _ => ?_) (fun c_167 => absurd c_167 (by decide))
              refine aw_iconst dX6_moves_174 ?_
              refine aw_iadd dX6_moves_175 ?_
              refine aw_istore dX6_moves_176 (by decide) ?_
              refine aw_goto (tgt := 12) dX6_moves_178 (by decide) ?_
              first
              | (exfalso; omega)
              | (exact AW.lss (ih (wt S (7 * s)) (k + 1) true hok (by omega) (by rw [wt_ne (by decide)]; omega) he) (And.intro rfl (And.intro rfl (And.intro rfl (And.intro rfl (And.intro rfl (And.intro rfl trivial)))))))
              | (exact AW.lss (ih (tk S s) (k + 1) false hok (by omega) (by rw [tk_ne (by decide)]; omega) he) (And.intro rfl (And.intro rfl (And.intro rfl (And.intro rfl (And.intro rfl (And.intro rfl trivial)))))))
              | (exact AW.lss (ih (wt (tk S s) (7 * s + 6)) (k + 1) false hok (by omega) (by rw [wt_ne (by decide), tk_ne (by decide)]; omega) he) (And.intro rfl (And.intro rfl (And.intro rfl (And.intro rfl (And.intro rfl (And.intro rfl trivial)))))))
              | (exact AW.lss (ih (gos (tk S s) s sec).2 0 false hok (by omega) (by rw [hg33]; omega) he) (And.intro rfl (And.intro rfl (And.intro rfl (And.intro rfl (And.intro rfl (And.intro rfl trivial)))))))
              | (exact AW.lss (ih (gos (tk S s) s sec).2 1 false hok (by omega) (by rw [hg33]; omega) he) (And.intro rfl (And.intro rfl (And.intro rfl (And.intro rfl (And.intro rfl (And.intro rfl trivial)))))))
            · rw [if_pos c_116] at hok he
              refine aw_iload dX6_moves_119 rfl ?_
              refine aw_if_ne (tgt := 138) dX6_moves_121 (by decide) (by omega) (fun c_121 => ?_) (fun c_121 => ?_)
              · rw [if_neg (by omega)] at hok he
                refine aw_iconst dX6_moves_138 ?_
                refine aw_istore dX6_moves_139 (by decide) ?_
                refine aw_iload dX6_moves_141 rfl ?_
                refine aw_if_le (tgt := 163) dX6_moves_143 (by decide) (by omega) (fun c_143 => ?_) (fun c_143 => ?_)
                · refine aw_iload dX6_moves_163 rfl ?_
                  refine aw_iload dX6_moves_165 rfl ?_
                  refine aw_if_eq (tgt := 174) dX6_moves_167 (by decide) (by omega) (fun _ => ?_) (fun c_167 => absurd c_167 (by decide))
                  refine aw_iconst dX6_moves_174 ?_
                  refine aw_iadd dX6_moves_175 ?_
                  refine aw_istore dX6_moves_176 (by decide) ?_
                  refine aw_goto (tgt := 12) dX6_moves_178 (by decide) ?_
                  first
                  | (exfalso; omega)
                  | (exact AW.lss (ih (wt S (7 * s)) (k + 1) true hok (by omega) (by rw [wt_ne (by decide)]; omega) he) (And.intro rfl (And.intro rfl (And.intro rfl (And.intro rfl (And.intro rfl (And.intro rfl trivial)))))))
                  | (exact AW.lss (ih (tk S s) (k + 1) false hok (by omega) (by rw [tk_ne (by decide)]; omega) he) (And.intro rfl (And.intro rfl (And.intro rfl (And.intro rfl (And.intro rfl (And.intro rfl trivial)))))))
                  | (exact AW.lss (ih (wt (tk S s) (7 * s + 6)) (k + 1) false hok (by omega) (by rw [wt_ne (by decide), tk_ne (by decide)]; omega) he) (And.intro rfl (And.intro rfl (And.intro rfl (And.intro rfl (And.intro rfl (And.intro rfl trivial)))))))
                  | (exact AW.lss (ih (gos (tk S s) s sec).2 0 false hok (by omega) (by rw [hg33]; omega) he) (And.intro rfl (And.intro rfl (And.intro rfl (And.intro rfl (And.intro rfl (And.intro rfl trivial)))))))
                  | (exact AW.lss (ih (gos (tk S s) s sec).2 1 false hok (by omega) (by rw [hg33]; omega) he) (And.intro rfl (And.intro rfl (And.intro rfl (And.intro rfl (And.intro rfl (And.intro rfl trivial)))))))
                · refine aw_aload_n dX6_moves_146 rfl rfl ?_
                  refine rr_getA dX6_moves_147 flX6_72 rfl (by decide) ?_
                  refine aw_bipush dX6_moves_150 (by decide) ?_
                  refine aw_iload dX6_moves_152 rfl ?_
                  refine aw_imul dX6_moves_154 ?_
                  refine aw_bipush dX6_moves_155 (by decide) ?_
                  refine aw_iadd dX6_moves_157 ?_
                  refine aw_dup2 dX6_moves_158 ?_
                  refine rr_iald (n := 210) (S0 := tk S s) dX6_moves_159 rfl rfl rfl (by omega) (by omega) (fun _ => by first | rfl | (exfalso; omega)) ?_
                  refine aw_iconst dX6_moves_160 ?_
                  refine aw_iadd dX6_moves_161 ?_
                  refine rr_iast (n := 210) dX6_moves_162 rfl rfl rfl (by omega) (by omega) ?_
                  refine aw_iload dX6_moves_163 rfl ?_
                  refine aw_iload dX6_moves_165 rfl ?_
                  refine aw_if_eq (tgt := 174) dX6_moves_167 (by decide) (by omega) (fun _ => ?_) (fun c_167 => absurd c_167 (by decide))
                  refine aw_iconst dX6_moves_174 ?_
                  refine aw_iadd dX6_moves_175 ?_
                  refine aw_istore dX6_moves_176 (by decide) ?_
                  refine aw_goto (tgt := 12) dX6_moves_178 (by decide) ?_
                  first
                  | (exfalso; omega)
                  | (exact AW.lss (ih (wt S (7 * s)) (k + 1) true hok (by omega) (by rw [wt_ne (by decide)]; omega) he) (And.intro rfl (And.intro rfl (And.intro rfl (And.intro rfl (And.intro rfl (And.intro rfl trivial)))))))
                  | (exact AW.lss (ih (tk S s) (k + 1) false hok (by omega) (by rw [tk_ne (by decide)]; omega) he) (And.intro rfl (And.intro rfl (And.intro rfl (And.intro rfl (And.intro rfl (And.intro rfl trivial)))))))
                  | (exact AW.lss (ih (wt (tk S s) (7 * s + 6)) (k + 1) false hok (by omega) (by rw [wt_ne (by decide), tk_ne (by decide)]; omega) he) (And.intro rfl (And.intro rfl (And.intro rfl (And.intro rfl (And.intro rfl (And.intro rfl trivial)))))))
                  | (exact AW.lss (ih (gos (tk S s) s sec).2 0 false hok (by omega) (by rw [hg33]; omega) he) (And.intro rfl (And.intro rfl (And.intro rfl (And.intro rfl (And.intro rfl (And.intro rfl trivial)))))))
                  | (exact AW.lss (ih (gos (tk S s) s sec).2 1 false hok (by omega) (by rw [hg33]; omega) he) (And.intro rfl (And.intro rfl (And.intro rfl (And.intro rfl (And.intro rfl (And.intro rfl trivial)))))))
              · obtain rfl : k = 0 := by omega
                rw [if_pos rfl] at hok he
                refine aw_aload_n dX6_moves_124 rfl rfl ?_
                refine aw_iload dX6_moves_125 rfl ?_
                refine aw_iload_n dX6_moves_127 rfl rfl ?_
                refine aw_callV (c_X6_goes (BB_tk hB) hins hs2) mv_X6_goes mlX6_141 dX6_moves_128 rfl rfl (by decide) rfl (Nat.le_of_ble_eq_true rfl) rfl ?_
                rintro _ _ _ _ ⟨rfl, rfl, rfl, rfl⟩
                have hg33 : (gos (tk S s) s sec).2 33 (2 * (sec : Int) + w) = S 33 (2 * (sec : Int) + w) - b2i (gos (tk S s) s sec).1 := by
                  have hg := gos_33 (S := tk S s) (s := s) (sec := sec) (by rw [tk_ne (by decide)]; omega) hs2
                  rw [tk_ne (k := 9) (by decide), h9, tk_ne (k := 33) (by decide)] at hg
                  exact hg
                have hgb := b2i_rg (gos (tk S s) s sec).1
                refine aw_if_eq (tgt := 138) dX6_moves_131 (by decide) (by omega) (fun c_131 => ?_) (fun c_131 => ?_)
                · have hg1 := b2i_zero c_131
                  rw [if_neg (by rw [hg1]; decide)] at hok he
                  rw [hg1, b2i_f] at hg33
                  refine aw_iconst dX6_moves_138 ?_
                  refine aw_istore dX6_moves_139 (by decide) ?_
                  refine aw_iload dX6_moves_141 rfl ?_
                  refine aw_if_le (tgt := 163) dX6_moves_143 (by decide) (by omega) (fun c_143 => ?_) (fun c_143 => ?_)
                  · refine aw_iload dX6_moves_163 rfl ?_
                    refine aw_iload dX6_moves_165 rfl ?_
                    refine aw_if_eq (tgt := 174) dX6_moves_167 (by decide) (by omega) (fun _ => ?_) (fun c_167 => absurd c_167 (by decide))
                    refine aw_iconst dX6_moves_174 ?_
                    refine aw_iadd dX6_moves_175 ?_
                    refine aw_istore dX6_moves_176 (by decide) ?_
                    refine aw_goto (tgt := 12) dX6_moves_178 (by decide) ?_
                    first
                    | (exfalso; omega)
                    | (exact AW.lss (ih (wt S (7 * s)) (k + 1) true hok (by omega) (by rw [wt_ne (by decide)]; omega) he) (And.intro rfl (And.intro rfl (And.intro rfl (And.intro rfl (And.intro rfl (And.intro rfl trivial)))))))
                    | (exact AW.lss (ih (tk S s) (k + 1) false hok (by omega) (by rw [tk_ne (by decide)]; omega) he) (And.intro rfl (And.intro rfl (And.intro rfl (And.intro rfl (And.intro rfl (And.intro rfl trivial)))))))
                    | (exact AW.lss (ih (wt (tk S s) (7 * s + 6)) (k + 1) false hok (by omega) (by rw [wt_ne (by decide), tk_ne (by decide)]; omega) he) (And.intro rfl (And.intro rfl (And.intro rfl (And.intro rfl (And.intro rfl (And.intro rfl trivial)))))))
                    | (exact AW.lss (ih (gos (tk S s) s sec).2 0 false hok (by omega) (by rw [hg33]; omega) he) (And.intro rfl (And.intro rfl (And.intro rfl (And.intro rfl (And.intro rfl (And.intro rfl trivial)))))))
                    | (exact AW.lss (ih (gos (tk S s) s sec).2 1 false hok (by omega) (by rw [hg33]; omega) he) (And.intro rfl (And.intro rfl (And.intro rfl (And.intro rfl (And.intro rfl (And.intro rfl trivial)))))))
                  · refine aw_aload_n dX6_moves_146 rfl rfl ?_
                    refine rr_getA dX6_moves_147 flX6_72 rfl (by decide) ?_
                    refine aw_bipush dX6_moves_150 (by decide) ?_
                    refine aw_iload dX6_moves_152 rfl ?_
                    refine aw_imul dX6_moves_154 ?_
                    refine aw_bipush dX6_moves_155 (by decide) ?_
                    refine aw_iadd dX6_moves_157 ?_
                    refine aw_dup2 dX6_moves_158 ?_
                    refine rr_iald (n := 210) (S0 := tk S s) dX6_moves_159 rfl rfl rfl (by omega) (by omega) (fun _ => by first | rfl | (exfalso; omega)) ?_
                    refine aw_iconst dX6_moves_160 ?_
                    refine aw_iadd dX6_moves_161 ?_
                    refine rr_iast (n := 210) dX6_moves_162 rfl rfl rfl (by omega) (by omega) ?_
                    refine aw_iload dX6_moves_163 rfl ?_
                    refine aw_iload dX6_moves_165 rfl ?_
                    refine aw_if_eq (tgt := 174) dX6_moves_167 (by decide) (by omega) (fun _ => ?_) (fun c_167 => absurd c_167 (by decide))
                    refine aw_iconst dX6_moves_174 ?_
                    refine aw_iadd dX6_moves_175 ?_
                    refine aw_istore dX6_moves_176 (by decide) ?_
                    refine aw_goto (tgt := 12) dX6_moves_178 (by decide) ?_
                    first
                    | (exfalso; omega)
                    | (exact AW.lss (ih (wt S (7 * s)) (k + 1) true hok (by omega) (by rw [wt_ne (by decide)]; omega) he) (And.intro rfl (And.intro rfl (And.intro rfl (And.intro rfl (And.intro rfl (And.intro rfl trivial)))))))
                    | (exact AW.lss (ih (tk S s) (k + 1) false hok (by omega) (by rw [tk_ne (by decide)]; omega) he) (And.intro rfl (And.intro rfl (And.intro rfl (And.intro rfl (And.intro rfl (And.intro rfl trivial)))))))
                    | (exact AW.lss (ih (wt (tk S s) (7 * s + 6)) (k + 1) false hok (by omega) (by rw [wt_ne (by decide), tk_ne (by decide)]; omega) he) (And.intro rfl (And.intro rfl (And.intro rfl (And.intro rfl (And.intro rfl (And.intro rfl trivial)))))))
                    | (exact AW.lss (ih (gos (tk S s) s sec).2 0 false hok (by omega) (by rw [hg33]; omega) he) (And.intro rfl (And.intro rfl (And.intro rfl (And.intro rfl (And.intro rfl (And.intro rfl trivial)))))))
                    | (exact AW.lss (ih (gos (tk S s) s sec).2 1 false hok (by omega) (by rw [hg33]; omega) he) (And.intro rfl (And.intro rfl (And.intro rfl (And.intro rfl (And.intro rfl (And.intro rfl trivial)))))))
                · have hg1 := b2i_pos c_131
                  rw [if_pos hg1] at hok he
                  rw [hg1, b2i_t] at hg33
                  refine aw_iconst dX6_moves_134 ?_
                  refine aw_goto (tgt := 139) dX6_moves_135 (by decide) ?_
                  refine aw_istore dX6_moves_139 (by decide) ?_
                  refine aw_iload dX6_moves_141 rfl ?_
                  refine aw_if_le (tgt := 163) dX6_moves_143 (by decide) (by omega) (fun c_143 => ?_) (fun c_143 => ?_)
                  · refine aw_iload dX6_moves_163 rfl ?_
                    refine aw_iload dX6_moves_165 rfl ?_
                    refine aw_if_eq (tgt := 174) dX6_moves_167 (by decide) (by omega) (fun c_167 => absurd c_167 (by decide)) (fun _ => ?_)
                    refine aw_iconst dX6_moves_170 ?_
                    refine aw_goto (tgt := 175) dX6_moves_171 (by decide) ?_
                    refine aw_iadd dX6_moves_175 ?_
                    refine aw_istore dX6_moves_176 (by decide) ?_
                    refine aw_goto (tgt := 12) dX6_moves_178 (by decide) ?_
                    first
                    | (exfalso; omega)
                    | (exact AW.lss (ih (wt S (7 * s)) (k + 1) true hok (by omega) (by rw [wt_ne (by decide)]; omega) he) (And.intro rfl (And.intro rfl (And.intro rfl (And.intro rfl (And.intro rfl (And.intro rfl trivial)))))))
                    | (exact AW.lss (ih (tk S s) (k + 1) false hok (by omega) (by rw [tk_ne (by decide)]; omega) he) (And.intro rfl (And.intro rfl (And.intro rfl (And.intro rfl (And.intro rfl (And.intro rfl trivial)))))))
                    | (exact AW.lss (ih (wt (tk S s) (7 * s + 6)) (k + 1) false hok (by omega) (by rw [wt_ne (by decide), tk_ne (by decide)]; omega) he) (And.intro rfl (And.intro rfl (And.intro rfl (And.intro rfl (And.intro rfl (And.intro rfl trivial)))))))
                    | (exact AW.lss (ih (gos (tk S s) s sec).2 0 false hok (by omega) (by rw [hg33]; omega) he) (And.intro rfl (And.intro rfl (And.intro rfl (And.intro rfl (And.intro rfl (And.intro rfl trivial)))))))
                    | (exact AW.lss (ih (gos (tk S s) s sec).2 1 false hok (by omega) (by rw [hg33]; omega) he) (And.intro rfl (And.intro rfl (And.intro rfl (And.intro rfl (And.intro rfl (And.intro rfl trivial)))))))
                  · refine aw_aload_n dX6_moves_146 rfl rfl ?_
                    refine rr_getA dX6_moves_147 flX6_72 rfl (by decide) ?_
                    refine aw_bipush dX6_moves_150 (by decide) ?_
                    refine aw_iload dX6_moves_152 rfl ?_
                    refine aw_imul dX6_moves_154 ?_
                    refine aw_bipush dX6_moves_155 (by decide) ?_
                    refine aw_iadd dX6_moves_157 ?_
                    refine aw_dup2 dX6_moves_158 ?_
                    refine rr_iald (n := 210) (S0 := tk S s) dX6_moves_159 rfl rfl rfl (by omega) (by omega) (fun _ => by first | rfl | (exfalso; omega)) ?_
                    refine aw_iconst dX6_moves_160 ?_
                    refine aw_iadd dX6_moves_161 ?_
                    refine rr_iast (n := 210) dX6_moves_162 rfl rfl rfl (by omega) (by omega) ?_
                    refine aw_iload dX6_moves_163 rfl ?_
                    refine aw_iload dX6_moves_165 rfl ?_
                    refine aw_if_eq (tgt := 174) dX6_moves_167 (by decide) (by omega) (fun c_167 => absurd c_167 (by decide)) (fun _ => ?_)
                    refine aw_iconst dX6_moves_170 ?_
                    refine aw_goto (tgt := 175) dX6_moves_171 (by decide) ?_
                    refine aw_iadd dX6_moves_175 ?_
                    refine aw_istore dX6_moves_176 (by decide) ?_
                    refine aw_goto (tgt := 12) dX6_moves_178 (by decide) ?_
                    first
                    | (exfalso; omega)
                    | (exact AW.lss (ih (wt S (7 * s)) (k + 1) true hok (by omega) (by rw [wt_ne (by decide)]; omega) he) (And.intro rfl (And.intro rfl (And.intro rfl (And.intro rfl (And.intro rfl (And.intro rfl trivial)))))))
                    | (exact AW.lss (ih (tk S s) (k + 1) false hok (by omega) (by rw [tk_ne (by decide)]; omega) he) (And.intro rfl (And.intro rfl (And.intro rfl (And.intro rfl (And.intro rfl (And.intro rfl trivial)))))))
                    | (exact AW.lss (ih (wt (tk S s) (7 * s + 6)) (k + 1) false hok (by omega) (by rw [wt_ne (by decide), tk_ne (by decide)]; omega) he) (And.intro rfl (And.intro rfl (And.intro rfl (And.intro rfl (And.intro rfl (And.intro rfl trivial)))))))
                    | (exact AW.lss (ih (gos (tk S s) s sec).2 0 false hok (by omega) (by rw [hg33]; omega) he) (And.intro rfl (And.intro rfl (And.intro rfl (And.intro rfl (And.intro rfl (And.intro rfl trivial)))))))
                    | (exact AW.lss (ih (gos (tk S s) s sec).2 1 false hok (by omega) (by rw [hg33]; omega) he) (And.intro rfl (And.intro rfl (And.intro rfl (And.intro rfl (And.intro rfl (And.intro rfl trivial)))))))
          · refine aw_iconst dX6_moves_102 ?_
            refine aw_goto (tgt := 107) dX6_moves_103 (by decide) ?_
            refine aw_isub dX6_moves_107 ?_
            refine rr_iast (n := 30) dX6_moves_108 rfl rfl rfl (by omega) (by omega) ?_
            first | (rw [show u2 S 16 s (S 16 s - 1) = tk S s by rw [tk, if_pos (by omega)]]) | (rw [show u2 S 16 s (S 16 s - 0) = tk S s by rw [tk, if_neg (by omega)]])
            have htk := tk_16 S s
            have hb16 : Rg (tk S s 16 s) := by rw [htk]; split <;> omega
            refine aw_aload_n dX6_moves_109 rfl rfl ?_
            refine rr_getA dX6_moves_110 flX6_51 rfl (by decide) ?_
            refine aw_iload dX6_moves_113 rfl ?_
            refine rr_iald (n := 30) (S0 := tk S s) dX6_moves_115 rfl rfl rfl (by omega) (by omega) (fun _ => rfl) ?_
            refine aw_if_ne (tgt := 163) dX6_moves_116 (by decide) (by omega) (fun c_116 => ?_) (fun c_116 => ?_)
            · rw [if_neg c_116] at hok he
              refine aw_iload dX6_moves_163 rfl ?_
              refine aw_iload dX6_moves_165 rfl ?_
              refine aw_if_eq (tgt := 174) dX6_moves_167 (by decide) (by omega) (fun _ => ?_) (fun c_167 => absurd c_167 (by decide))
              refine aw_iconst dX6_moves_174 ?_
              refine aw_iadd dX6_moves_175 ?_
              refine aw_istore dX6_moves_176 (by decide) ?_
              refine aw_goto (tgt := 12) dX6_moves_178 (by decide) ?_
              first
              | (exfalso; omega)
              | (exact AW.lss (ih (wt S (7 * s)) (k + 1) true hok (by omega) (by rw [wt_ne (by decide)]; omega) he) (And.intro rfl (And.intro rfl (And.intro rfl (And.intro rfl (And.intro rfl (And.intro rfl trivial)))))))
              | (exact AW.lss (ih (tk S s) (k + 1) false hok (by omega) (by rw [tk_ne (by decide)]; omega) he) (And.intro rfl (And.intro rfl (And.intro rfl (And.intro rfl (And.intro rfl (And.intro rfl trivial)))))))
              | (exact AW.lss (ih (wt (tk S s) (7 * s + 6)) (k + 1) false hok (by omega) (by rw [wt_ne (by decide), tk_ne (by decide)]; omega) he) (And.intro rfl (And.intro rfl (And.intro rfl (And.intro rfl (And.intro rfl (And.intro rfl trivial)))))))
              | (exact AW.lss (ih (gos (tk S s) s sec).2 0 false hok (by omega) (by rw [hg33]; omega) he) (And.intro rfl (And.intro rfl (And.intro rfl (And.intro rfl (And.intro rfl (And.intro rfl trivial)))))))
              | (exact AW.lss (ih (gos (tk S s) s sec).2 1 false hok (by omega) (by rw [hg33]; omega) he) (And.intro rfl (And.intro rfl (And.intro rfl (And.intro rfl (And.intro rfl (And.intro rfl trivial)))))))
            · rw [if_pos c_116] at hok he
              refine aw_iload dX6_moves_119 rfl ?_
              refine aw_if_ne (tgt := 138) dX6_moves_121 (by decide) (by omega) (fun c_121 => ?_) (fun c_121 => ?_)
              · rw [if_neg (by omega)] at hok he
                refine aw_iconst dX6_moves_138 ?_
                refine aw_istore dX6_moves_139 (by decide) ?_
                refine aw_iload dX6_moves_141 rfl ?_
                refine aw_if_le (tgt := 163) dX6_moves_143 (by decide) (by omega) (fun c_143 => ?_) (fun c_143 => ?_)
                · refine aw_iload dX6_moves_163 rfl ?_
                  refine aw_iload dX6_moves_165 rfl ?_
                  refine aw_if_eq (tgt := 174) dX6_moves_167 (by decide) (by omega) (fun _ => ?_) (fun c_167 => absurd c_167 (by decide))
                  refine aw_iconst dX6_moves_174 ?_
                  refine aw_iadd dX6_moves_175 ?_
                  refine aw_istore dX6_moves_176 (by decide) ?_
                  refine aw_goto (tgt := 12) dX6_moves_178 (by decide) ?_
                  first
                  | (exfalso; omega)
                  | (exact AW.lss (ih (wt S (7 * s)) (k + 1) true hok (by omega) (by rw [wt_ne (by decide)]; omega) he) (And.intro rfl (And.intro rfl (And.intro rfl (And.intro rfl (And.intro rfl (And.intro rfl trivial)))))))
                  | (exact AW.lss (ih (tk S s) (k + 1) false hok (by omega) (by rw [tk_ne (by decide)]; omega) he) (And.intro rfl (And.intro rfl (And.intro rfl (And.intro rfl (And.intro rfl (And.intro rfl trivial)))))))
                  | (exact AW.lss (ih (wt (tk S s) (7 * s + 6)) (k + 1) false hok (by omega) (by rw [wt_ne (by decide), tk_ne (by decide)]; omega) he) (And.intro rfl (And.intro rfl (And.intro rfl (And.intro rfl (And.intro rfl (And.intro rfl trivial)))))))
                  | (exact AW.lss (ih (gos (tk S s) s sec).2 0 false hok (by omega) (by rw [hg33]; omega) he) (And.intro rfl (And.intro rfl (And.intro rfl (And.intro rfl (And.intro rfl (And.intro rfl trivial)))))))
                  | (exact AW.lss (ih (gos (tk S s) s sec).2 1 false hok (by omega) (by rw [hg33]; omega) he) (And.intro rfl (And.intro rfl (And.intro rfl (And.intro rfl (And.intro rfl (And.intro rfl trivial)))))))
                · refine aw_aload_n dX6_moves_146 rfl rfl ?_
                  refine rr_getA dX6_moves_147 flX6_72 rfl (by decide) ?_
                  refine aw_bipush dX6_moves_150 (by decide) ?_
                  refine aw_iload dX6_moves_152 rfl ?_
                  refine aw_imul dX6_moves_154 ?_
                  refine aw_bipush dX6_moves_155 (by decide) ?_
                  refine aw_iadd dX6_moves_157 ?_
                  refine aw_dup2 dX6_moves_158 ?_
                  refine rr_iald (n := 210) (S0 := tk S s) dX6_moves_159 rfl rfl rfl (by omega) (by omega) (fun _ => by first | rfl | (exfalso; omega)) ?_
                  refine aw_iconst dX6_moves_160 ?_
                  refine aw_iadd dX6_moves_161 ?_
                  refine rr_iast (n := 210) dX6_moves_162 rfl rfl rfl (by omega) (by omega) ?_
                  refine aw_iload dX6_moves_163 rfl ?_
                  refine aw_iload dX6_moves_165 rfl ?_
                  refine aw_if_eq (tgt := 174) dX6_moves_167 (by decide) (by omega) (fun _ => ?_) (fun c_167 => absurd c_167 (by decide))
                  refine aw_iconst dX6_moves_174 ?_
                  refine aw_iadd dX6_moves_175 ?_
                  refine aw_istore dX6_moves_176 (by decide) ?_
                  refine aw_goto (tgt := 12) dX6_moves_178 (by decide) ?_
                  first
                  | (exfalso; omega)
                  | (exact AW.lss (ih (wt S (7 * s)) (k + 1) true hok (by omega) (by rw [wt_ne (by decide)]; omega) he) (And.intro rfl (And.intro rfl (And.intro rfl (And.intro rfl (And.intro rfl (And.intro rfl trivial)))))))
                  | (exact AW.lss (ih (tk S s) (k + 1) false hok (by omega) (by rw [tk_ne (by decide)]; omega) he) (And.intro rfl (And.intro rfl (And.intro rfl (And.intro rfl (And.intro rfl (And.intro rfl trivial)))))))
                  | (exact AW.lss (ih (wt (tk S s) (7 * s + 6)) (k + 1) false hok (by omega) (by rw [wt_ne (by decide), tk_ne (by decide)]; omega) he) (And.intro rfl (And.intro rfl (And.intro rfl (And.intro rfl (And.intro rfl (And.intro rfl trivial)))))))
                  | (exact AW.lss (ih (gos (tk S s) s sec).2 0 false hok (by omega) (by rw [hg33]; omega) he) (And.intro rfl (And.intro rfl (And.intro rfl (And.intro rfl (And.intro rfl (And.intro rfl trivial)))))))
                  | (exact AW.lss (ih (gos (tk S s) s sec).2 1 false hok (by omega) (by rw [hg33]; omega) he) (And.intro rfl (And.intro rfl (And.intro rfl (And.intro rfl (And.intro rfl (And.intro rfl trivial)))))))
              · obtain rfl : k = 0 := by omega
                rw [if_pos rfl] at hok he
                refine aw_aload_n dX6_moves_124 rfl rfl ?_
                refine aw_iload dX6_moves_125 rfl ?_
                refine aw_iload_n dX6_moves_127 rfl rfl ?_
                refine aw_callV (c_X6_goes (BB_tk hB) hins hs2) mv_X6_goes mlX6_141 dX6_moves_128 rfl rfl (by decide) rfl (Nat.le_of_ble_eq_true rfl) rfl ?_
                rintro _ _ _ _ ⟨rfl, rfl, rfl, rfl⟩
                have hg33 : (gos (tk S s) s sec).2 33 (2 * (sec : Int) + w) = S 33 (2 * (sec : Int) + w) - b2i (gos (tk S s) s sec).1 := by
                  have hg := gos_33 (S := tk S s) (s := s) (sec := sec) (by rw [tk_ne (by decide)]; omega) hs2
                  rw [tk_ne (k := 9) (by decide), h9, tk_ne (k := 33) (by decide)] at hg
                  exact hg
                have hgb := b2i_rg (gos (tk S s) s sec).1
                refine aw_if_eq (tgt := 138) dX6_moves_131 (by decide) (by omega) (fun c_131 => ?_) (fun c_131 => ?_)
                · have hg1 := b2i_zero c_131
                  rw [if_neg (by rw [hg1]; decide)] at hok he
                  rw [hg1, b2i_f] at hg33
                  refine aw_iconst dX6_moves_138 ?_
                  refine aw_istore dX6_moves_139 (by decide) ?_
                  refine aw_iload dX6_moves_141 rfl ?_
                  refine aw_if_le (tgt := 163) dX6_moves_143 (by decide) (by omega) (fun c_143 => ?_) (fun c_143 => ?_)
                  · refine aw_iload dX6_moves_163 rfl ?_
                    refine aw_iload dX6_moves_165 rfl ?_
                    refine aw_if_eq (tgt := 174) dX6_moves_167 (by decide) (by omega) (fun _ => ?_) (fun c_167 => absurd c_167 (by decide))
                    refine aw_iconst dX6_moves_174 ?_
                    refine aw_iadd dX6_moves_175 ?_
                    refine aw_istore dX6_moves_176 (by decide) ?_
                    refine aw_goto (tgt := 12) dX6_moves_178 (by decide) ?_
                    first
                    | (exfalso; omega)
                    | (exact AW.lss (ih (wt S (7 * s)) (k + 1) true hok (by omega) (by rw [wt_ne (by decide)]; omega) he) (And.intro rfl (And.intro rfl (And.intro rfl (And.intro rfl (And.intro rfl (And.intro rfl trivial)))))))
                    | (exact AW.lss (ih (tk S s) (k + 1) false hok (by omega) (by rw [tk_ne (by decide)]; omega) he) (And.intro rfl (And.intro rfl (And.intro rfl (And.intro rfl (And.intro rfl (And.intro rfl trivial)))))))
                    | (exact AW.lss (ih (wt (tk S s) (7 * s + 6)) (k + 1) false hok (by omega) (by rw [wt_ne (by decide), tk_ne (by decide)]; omega) he) (And.intro rfl (And.intro rfl (And.intro rfl (And.intro rfl (And.intro rfl (And.intro rfl trivial)))))))
                    | (exact AW.lss (ih (gos (tk S s) s sec).2 0 false hok (by omega) (by rw [hg33]; omega) he) (And.intro rfl (And.intro rfl (And.intro rfl (And.intro rfl (And.intro rfl (And.intro rfl trivial)))))))
                    | (exact AW.lss (ih (gos (tk S s) s sec).2 1 false hok (by omega) (by rw [hg33]; omega) he) (And.intro rfl (And.intro rfl (And.intro rfl (And.intro rfl (And.intro rfl (And.intro rfl trivial)))))))
                  · refine aw_aload_n dX6_moves_146 rfl rfl ?_
                    refine rr_getA dX6_moves_147 flX6_72 rfl (by decide) ?_
                    refine aw_bipush dX6_moves_150 (by decide) ?_
                    refine aw_iload dX6_moves_152 rfl ?_
                    refine aw_imul dX6_moves_154 ?_
                    refine aw_bipush dX6_moves_155 (by decide) ?_
                    refine aw_iadd dX6_moves_157 ?_
                    refine aw_dup2 dX6_moves_158 ?_
                    refine rr_iald (n := 210) (S0 := tk S s) dX6_moves_159 rfl rfl rfl (by omega) (by omega) (fun _ => by first | rfl | (exfalso; omega)) ?_
                    refine aw_iconst dX6_moves_160 ?_
                    refine aw_iadd dX6_moves_161 ?_
                    refine rr_iast (n := 210) dX6_moves_162 rfl rfl rfl (by omega) (by omega) ?_
                    refine aw_iload dX6_moves_163 rfl ?_
                    refine aw_iload dX6_moves_165 rfl ?_
                    refine aw_if_eq (tgt := 174) dX6_moves_167 (by decide) (by omega) (fun _ => ?_) (fun c_167 => absurd c_167 (by decide))
                    refine aw_iconst dX6_moves_174 ?_
                    refine aw_iadd dX6_moves_175 ?_
                    refine aw_istore dX6_moves_176 (by decide) ?_
                    refine aw_goto (tgt := 12) dX6_moves_178 (by decide) ?_
                    first
                    | (exfalso; omega)
                    | (exact AW.lss (ih (wt S (7 * s)) (k + 1) true hok (by omega) (by rw [wt_ne (by decide)]; omega) he) (And.intro rfl (And.intro rfl (And.intro rfl (And.intro rfl (And.intro rfl (And.intro rfl trivial)))))))
                    | (exact AW.lss (ih (tk S s) (k + 1) false hok (by omega) (by rw [tk_ne (by decide)]; omega) he) (And.intro rfl (And.intro rfl (And.intro rfl (And.intro rfl (And.intro rfl (And.intro rfl trivial)))))))
                    | (exact AW.lss (ih (wt (tk S s) (7 * s + 6)) (k + 1) false hok (by omega) (by rw [wt_ne (by decide), tk_ne (by decide)]; omega) he) (And.intro rfl (And.intro rfl (And.intro rfl (And.intro rfl (And.intro rfl (And.intro rfl trivial)))))))
                    | (exact AW.lss (ih (gos (tk S s) s sec).2 0 false hok (by omega) (by rw [hg33]; omega) he) (And.intro rfl (And.intro rfl (And.intro rfl (And.intro rfl (And.intro rfl (And.intro rfl trivial)))))))
                    | (exact AW.lss (ih (gos (tk S s) s sec).2 1 false hok (by omega) (by rw [hg33]; omega) he) (And.intro rfl (And.intro rfl (And.intro rfl (And.intro rfl (And.intro rfl (And.intro rfl trivial)))))))
                · have hg1 := b2i_pos c_131
                  rw [if_pos hg1] at hok he
                  rw [hg1, b2i_t] at hg33
                  refine aw_iconst dX6_moves_134 ?_
                  refine aw_goto (tgt := 139) dX6_moves_135 (by decide) ?_
                  refine aw_istore dX6_moves_139 (by decide) ?_
                  refine aw_iload dX6_moves_141 rfl ?_
                  refine aw_if_le (tgt := 163) dX6_moves_143 (by decide) (by omega) (fun c_143 => ?_) (fun c_143 => ?_)
                  · refine aw_iload dX6_moves_163 rfl ?_
                    refine aw_iload dX6_moves_165 rfl ?_
                    refine aw_if_eq (tgt := 174) dX6_moves_167 (by decide) (by omega) (fun c_167 => absurd c_167 (by decide)) (fun _ => ?_)
                    refine aw_iconst dX6_moves_170 ?_
                    refine aw_goto (tgt := 175) dX6_moves_171 (by decide) ?_
                    refine aw_iadd dX6_moves_175 ?_
                    refine aw_istore dX6_moves_176 (by decide) ?_
                    refine aw_goto (tgt := 12) dX6_moves_178 (by decide) ?_
                    first
                    | (exfalso; omega)
                    | (exact AW.lss (ih (wt S (7 * s)) (k + 1) true hok (by omega) (by rw [wt_ne (by decide)]; omega) he) (And.intro rfl (And.intro rfl (And.intro rfl (And.intro rfl (And.intro rfl (And.intro rfl trivial)))))))
                    | (exact AW.lss (ih (tk S s) (k + 1) false hok (by omega) (by rw [tk_ne (by decide)]; omega) he) (And.intro rfl (And.intro rfl (And.intro rfl (And.intro rfl (And.intro rfl (And.intro rfl trivial)))))))
                    | (exact AW.lss (ih (wt (tk S s) (7 * s + 6)) (k + 1) false hok (by omega) (by rw [wt_ne (by decide), tk_ne (by decide)]; omega) he) (And.intro rfl (And.intro rfl (And.intro rfl (And.intro rfl (And.intro rfl (And.intro rfl trivial)))))))
                    | (exact AW.lss (ih (gos (tk S s) s sec).2 0 false hok (by omega) (by rw [hg33]; omega) he) (And.intro rfl (And.intro rfl (And.intro rfl (And.intro rfl (And.intro rfl (And.intro rfl trivial)))))))
                    | (exact AW.lss (ih (gos (tk S s) s sec).2 1 false hok (by omega) (by rw [hg33]; omega) he) (And.intro rfl (And.intro rfl (And.intro rfl (And.intro rfl (And.intro rfl (And.intro rfl trivial)))))))
                  · refine aw_aload_n dX6_moves_146 rfl rfl ?_
                    refine rr_getA dX6_moves_147 flX6_72 rfl (by decide) ?_
                    refine aw_bipush dX6_moves_150 (by decide) ?_
                    refine aw_iload dX6_moves_152 rfl ?_
                    refine aw_imul dX6_moves_154 ?_
                    refine aw_bipush dX6_moves_155 (by decide) ?_
                    refine aw_iadd dX6_moves_157 ?_
                    refine aw_dup2 dX6_moves_158 ?_
                    refine rr_iald (n := 210) (S0 := tk S s) dX6_moves_159 rfl rfl rfl (by omega) (by omega) (fun _ => by first | rfl | (exfalso; omega)) ?_
                    refine aw_iconst dX6_moves_160 ?_
                    refine aw_iadd dX6_moves_161 ?_
                    refine rr_iast (n := 210) dX6_moves_162 rfl rfl rfl (by omega) (by omega) ?_
                    refine aw_iload dX6_moves_163 rfl ?_
                    refine aw_iload dX6_moves_165 rfl ?_
                    refine aw_if_eq (tgt := 174) dX6_moves_167 (by decide) (by omega) (fun c_167 => absurd c_167 (by decide)) (fun _ => ?_)
                    refine aw_iconst dX6_moves_170 ?_
                    refine aw_goto (tgt := 175) dX6_moves_171 (by decide) ?_
                    refine aw_iadd dX6_moves_175 ?_
                    refine aw_istore dX6_moves_176 (by decide) ?_
                    refine aw_goto (tgt := 12) dX6_moves_178 (by decide) ?_
                    first
                    | (exfalso; omega)
                    | (exact AW.lss (ih (wt S (7 * s)) (k + 1) true hok (by omega) (by rw [wt_ne (by decide)]; omega) he) (And.intro rfl (And.intro rfl (And.intro rfl (And.intro rfl (And.intro rfl (And.intro rfl trivial)))))))
                    | (exact AW.lss (ih (tk S s) (k + 1) false hok (by omega) (by rw [tk_ne (by decide)]; omega) he) (And.intro rfl (And.intro rfl (And.intro rfl (And.intro rfl (And.intro rfl (And.intro rfl trivial)))))))
                    | (exact AW.lss (ih (wt (tk S s) (7 * s + 6)) (k + 1) false hok (by omega) (by rw [wt_ne (by decide), tk_ne (by decide)]; omega) he) (And.intro rfl (And.intro rfl (And.intro rfl (And.intro rfl (And.intro rfl (And.intro rfl trivial)))))))
                    | (exact AW.lss (ih (gos (tk S s) s sec).2 0 false hok (by omega) (by rw [hg33]; omega) he) (And.intro rfl (And.intro rfl (And.intro rfl (And.intro rfl (And.intro rfl (And.intro rfl trivial)))))))
                    | (exact AW.lss (ih (gos (tk S s) s sec).2 1 false hok (by omega) (by rw [hg33]; omega) he) (And.intro rfl (And.intro rfl (And.intro rfl (And.intro rfl (And.intro rfl (And.intro rfl trivial)))))))
        · have hst : (stuck || decide (0 < S 21 s)) = true := by rw [decide_eq_true (show 0 < S 21 s by omega), Bool.or_true]
          rw [if_pos hst] at hok he
          refine aw_iconst dX6_moves_52 ?_
          refine aw_goto (tgt := 57) dX6_moves_53 (by decide) ?_
          refine aw_istore dX6_moves_57 (by decide) ?_
          refine aw_iconst dX6_moves_59 ?_
          refine aw_istore dX6_moves_60 (by decide) ?_
          refine aw_iload dX6_moves_62 rfl ?_
          refine aw_if_eq (tgt := 84) dX6_moves_64 (by decide) (by omega) (fun c_64 => absurd c_64 (by decide)) (fun _ => ?_)
          refine aw_aload_n dX6_moves_67 rfl rfl ?_
          refine rr_getA dX6_moves_68 flX6_72 rfl (by decide) ?_
          refine aw_bipush dX6_moves_71 (by decide) ?_
          refine aw_iload dX6_moves_73 rfl ?_
          refine aw_imul dX6_moves_75 ?_
          refine aw_dup2 dX6_moves_76 ?_
          refine rr_iald (n := 210) dX6_moves_77 rfl rfl rfl (by omega) (by omega) (fun _ => rfl) ?_
          refine aw_iconst dX6_moves_78 ?_
          refine aw_iadd dX6_moves_79 ?_
          refine rr_iast (n := 210) dX6_moves_80 rfl rfl rfl (by omega) (by omega) ?_
          refine aw_goto (tgt := 163) dX6_moves_81 (by decide) ?_
          refine aw_iload dX6_moves_163 rfl ?_
          refine aw_iload dX6_moves_165 rfl ?_
          refine aw_if_eq (tgt := 174) dX6_moves_167 (by decide) (by omega) (fun _ => ?_) (fun c_167 => absurd c_167 (by decide))
          refine aw_iconst dX6_moves_174 ?_
          refine aw_iadd dX6_moves_175 ?_
          refine aw_istore dX6_moves_176 (by decide) ?_
          refine aw_goto (tgt := 12) dX6_moves_178 (by decide) ?_
          first
          | (exfalso; omega)
          | (exact AW.lss (ih (wt S (7 * s)) (k + 1) true hok (by omega) (by rw [wt_ne (by decide)]; omega) he) (And.intro rfl (And.intro rfl (And.intro rfl (And.intro rfl (And.intro rfl (And.intro rfl trivial)))))))
          | (exact AW.lss (ih (tk S s) (k + 1) false hok (by omega) (by rw [tk_ne (by decide)]; omega) he) (And.intro rfl (And.intro rfl (And.intro rfl (And.intro rfl (And.intro rfl (And.intro rfl trivial)))))))
          | (exact AW.lss (ih (wt (tk S s) (7 * s + 6)) (k + 1) false hok (by omega) (by rw [wt_ne (by decide), tk_ne (by decide)]; omega) he) (And.intro rfl (And.intro rfl (And.intro rfl (And.intro rfl (And.intro rfl (And.intro rfl trivial)))))))
          | (exact AW.lss (ih (gos (tk S s) s sec).2 0 false hok (by omega) (by rw [hg33]; omega) he) (And.intro rfl (And.intro rfl (And.intro rfl (And.intro rfl (And.intro rfl (And.intro rfl trivial)))))))
          | (exact AW.lss (ih (gos (tk S s) s sec).2 1 false hok (by omega) (by rw [hg33]; omega) he) (And.intro rfl (And.intro rfl (And.intro rfl (And.intro rfl (And.intro rfl (And.intro rfl trivial)))))))
set_option maxRecDepth 100000 in
set_option maxHeartbeats 4000000 in
theorem c_X6_moves {sec : Nat} {w : Int} (hs2 : sec < 8) (hw : w = 0 ∨ w = 1) (hok : okM sec w (S 33 (2 * (sec : Int) + w)).toNat S 0 false) : CT l D cA A ad yX6_moves cX6_moves 8 none rm_X6_moves [.inr (some (50, 0)), .inl ((sec : Int)), .inl w] lvR (VR S) sz (PR none (mvs S sec w) sz) := by
  refine CT.of2 [some (.inr (some (50, 0))), some (.inl ((sec : Int))), some (.inl w), none, none, none, none, none] (by decide) (Nat.le_of_ble_eq_true rfl) rfl ?_
  refine aw_iconst dX6_moves_0 ?_
  refine aw_iload_n dX6_moves_1 rfl rfl ?_
  refine aw_imul dX6_moves_2 ?_
  refine aw_iload_n dX6_moves_3 rfl rfl ?_
  refine aw_iadd dX6_moves_4 ?_
  refine aw_istore_n dX6_moves_5 rfl (by decide) ?_
  refine aw_iconst dX6_moves_6 ?_
  refine aw_istore dX6_moves_7 (by decide) ?_
  refine aw_iconst dX6_moves_9 ?_
  refine aw_istore dX6_moves_10 (by decide) ?_
  exact lp_X6_moves hs2 hw (S 33 (2 * (sec : Int) + w)).toNat S 0 false hok (by omega) (by have := hok.bb.iM (a := 2 * (sec : Int) + w) (by omega) (by omega); omega) rfl
set_option maxRecDepth 100000 in
set_option maxHeartbeats 4000000 in
theorem lp1_X6_comesIn {S9 : SS} {w s sec why : Int} (hB : BB S) (hw : w = 0 ∨ w = 1) (h1 : 1 ≤ S 31 w) (hk : AW l D cA A ad yX6_comesIn cX6_comesIn 6 none rm_X6_comesIn (PR none (S9) sz) 0 0 lvR (VR (qw S w ((S 31 w).toNat - 1))) sz 86 [some (.inr (some (50, 0))), some (.inl w), some (.inl s), some (.inl sec), some (.inl why), none] []) : ∀ (f n : Nat), n + f = (S 31 w).toNat - 1 → AW l D cA A ad yX6_comesIn cX6_comesIn 6 none rm_X6_comesIn (PR none (S9) sz) 0 0 lvR (VR (qw S w n)) sz 42 [some (.inr (some (50, 0))), some (.inl w), some (.inl s), some (.inl sec), some (.inl why), some (.inl ((n : Int) + 1))] [] := by
  have hln := hB.ln (w := w) (by omega) (by omega)
  intro f
  induction f with
  | zero =>
    intro n hn
    refine aw_iload dX6_comesIn_42 rfl ?_
    refine aw_aload_n dX6_comesIn_44 rfl rfl ?_
    refine rr_getA dX6_comesIn_45 flX6_93 rfl (by decide) ?_
    refine aw_iload_n dX6_comesIn_48 rfl rfl ?_
    refine rr_iald (n := 2) (S0 := S) dX6_comesIn_49 rfl rfl rfl (by omega) (by omega) (fun _ => qw_ne (by decide) _ _) ?_
    refine aw_icmp_ge (tgt := 86) dX6_comesIn_50 (by decide) (by omega) (by omega) (fun c_50 => ?_) (fun c_50 => absurd c_50 (by omega))
    rw [show n = (S 31 w).toNat - 1 by omega]
    exact AW.lss hk (And.intro rfl (And.intro rfl (And.intro rfl (And.intro rfl (And.intro rfl trivial)))))
  | succ f ih =>
    intro n hn
    have hli := hB.li (x := 30 * w + ((n : Int) + 1)) (by omega) (by omega)
    refine aw_iload dX6_comesIn_42 rfl ?_
    refine aw_aload_n dX6_comesIn_44 rfl rfl ?_
    refine rr_getA dX6_comesIn_45 flX6_93 rfl (by decide) ?_
    refine aw_iload_n dX6_comesIn_48 rfl rfl ?_
    refine rr_iald (n := 2) (S0 := S) dX6_comesIn_49 rfl rfl rfl (by omega) (by omega) (fun _ => qw_ne (by decide) _ _) ?_
    refine aw_icmp_ge (tgt := 86) dX6_comesIn_50 (by decide) (by omega) (by omega) (fun c_50 => absurd c_50 (by omega)) (fun c_50 => ?_)
    refine aw_aload_n dX6_comesIn_53 rfl rfl ?_
    refine rr_getA dX6_comesIn_54 flX6_72 rfl (by decide) ?_
    refine aw_bipush dX6_comesIn_57 (by decide) ?_
    refine aw_aload_n dX6_comesIn_59 rfl rfl ?_
    refine rr_getA dX6_comesIn_60 flX6_96 rfl (by decide) ?_
    refine aw_bipush dX6_comesIn_63 (by decide) ?_
    refine aw_iload_n dX6_comesIn_65 rfl rfl ?_
    refine aw_imul dX6_comesIn_66 ?_
    refine aw_iload dX6_comesIn_67 rfl ?_
    refine aw_iadd dX6_comesIn_69 ?_
    refine rr_iald (n := 60) (S0 := S) dX6_comesIn_70 rfl rfl rfl (by omega) (by omega) (fun _ => qw_ne (by decide) _ _) ?_
    refine aw_imul dX6_comesIn_71 ?_
    refine aw_bipush dX6_comesIn_72 (by decide) ?_
    refine aw_iadd dX6_comesIn_74 ?_
    refine aw_dup2 dX6_comesIn_75 ?_
    refine rr_iald (n := 210) (S0 := qw S w n) dX6_comesIn_76 rfl rfl rfl (by omega) (by omega) (fun _ => rfl) ?_
    refine aw_iconst dX6_comesIn_77 ?_
    refine aw_iadd dX6_comesIn_78 ?_
    refine rr_iast (n := 210) dX6_comesIn_79 rfl rfl rfl (by omega) (by omega) ?_
    refine aw_iinc dX6_comesIn_80 rfl (by decide) ?_
    refine aw_goto (tgt := 42) dX6_comesIn_83 (by decide) ?_
    exact AW.lss (ih (n + 1) (by omega)) (And.intro rfl (And.intro rfl (And.intro rfl (And.intro rfl (And.intro rfl (And.intro rfl trivial))))))
set_option maxRecDepth 100000 in
set_option maxHeartbeats 4000000 in
theorem lp2_X6_comesIn {T S9 : SS} {w s sec why : Int} (hw : w = 0 ∨ w = 1) (h1 : 1 ≤ T 31 w ∧ T 31 w ≤ 30) (hk : AW l D cA A ad yX6_comesIn cX6_comesIn 6 none rm_X6_comesIn (PR none (S9) sz) 0 0 lvR (VR (shf (u2 T 31 w (T 31 w - 1)) 32 (30 * w) (T 31 w - 1).toNat)) sz 164 [some (.inr (some (50, 0))), some (.inl w), some (.inl s), some (.inl sec), some (.inl why), none] []) : ∀ (f n : Nat), n + f = (T 31 w - 1).toNat → AW l D cA A ad yX6_comesIn cX6_comesIn 6 none rm_X6_comesIn (PR none (S9) sz) 0 0 lvR (VR (shf (u2 T 31 w (T 31 w - 1)) 32 (30 * w) n)) sz 121 [some (.inr (some (50, 0))), some (.inl w), some (.inl s), some (.inl sec), some (.inl why), some (.inl (n : Int))] [] := by
  have e31 : ∀ (n : Nat), shf (u2 T 31 w (T 31 w - 1)) 32 (30 * w) n 31 w = T 31 w - 1 := fun n => by rw [shf_ne (by decide), u2_self]
  intro f
  induction f with
  | zero =>
    intro n hn
    have e := e31 n
    refine aw_iload dX6_comesIn_121 rfl ?_
    refine aw_aload_n dX6_comesIn_123 rfl rfl ?_
    refine rr_getA dX6_comesIn_124 flX6_93 rfl (by decide) ?_
    refine aw_iload_n dX6_comesIn_127 rfl rfl ?_
    refine rr_iald (n := 2) (S0 := shf (u2 T 31 w (T 31 w - 1)) 32 (30 * w) n) dX6_comesIn_128 rfl rfl rfl (by omega) (by omega) (fun _ => rfl) ?_
    refine aw_icmp_ge (tgt := 164) dX6_comesIn_129 (by decide) (by omega) (by omega) (fun c_129 => ?_) (fun c_129 => absurd c_129 (by omega))
    rw [show n = (T 31 w - 1).toNat by omega]
    exact AW.lss hk (And.intro rfl (And.intro rfl (And.intro rfl (And.intro rfl (And.intro rfl trivial)))))
  | succ f ih =>
    intro n hn
    have e := e31 n
    refine aw_iload dX6_comesIn_121 rfl ?_
    refine aw_aload_n dX6_comesIn_123 rfl rfl ?_
    refine rr_getA dX6_comesIn_124 flX6_93 rfl (by decide) ?_
    refine aw_iload_n dX6_comesIn_127 rfl rfl ?_
    refine rr_iald (n := 2) (S0 := shf (u2 T 31 w (T 31 w - 1)) 32 (30 * w) n) dX6_comesIn_128 rfl rfl rfl (by omega) (by omega) (fun _ => rfl) ?_
    refine aw_icmp_ge (tgt := 164) dX6_comesIn_129 (by decide) (by omega) (by omega) (fun c_129 => absurd c_129 (by omega)) (fun c_129 => ?_)
    refine aw_aload_n dX6_comesIn_132 rfl rfl ?_
    refine rr_getA dX6_comesIn_133 flX6_96 rfl (by decide) ?_
    refine aw_bipush dX6_comesIn_136 (by decide) ?_
    refine aw_iload_n dX6_comesIn_138 rfl rfl ?_
    refine aw_imul dX6_comesIn_139 ?_
    refine aw_iload dX6_comesIn_140 rfl ?_
    refine aw_iadd dX6_comesIn_142 ?_
    refine aw_aload_n dX6_comesIn_143 rfl rfl ?_
    refine rr_getA dX6_comesIn_144 flX6_96 rfl (by decide) ?_
    refine aw_bipush dX6_comesIn_147 (by decide) ?_
    refine aw_iload_n dX6_comesIn_149 rfl rfl ?_
    refine aw_imul dX6_comesIn_150 ?_
    refine aw_iload dX6_comesIn_151 rfl ?_
    refine aw_iadd dX6_comesIn_153 ?_
    refine aw_iconst dX6_comesIn_154 ?_
    refine aw_iadd dX6_comesIn_155 ?_
    refine rr_iald (n := 60) dX6_comesIn_156 rfl rfl rfl (by omega) (by omega) (fun _ => rfl) ?_
    refine rr_iast (n := 60) dX6_comesIn_157 rfl rfl rfl (by omega) (by omega) ?_
    refine aw_iinc dX6_comesIn_158 rfl (by decide) ?_
    refine aw_goto (tgt := 121) dX6_comesIn_161 (by decide) ?_
    exact AW.lss (ih (n + 1) (by omega)) (And.intro rfl (And.intro rfl (And.intro rfl (And.intro rfl (And.intro rfl (And.intro rfl trivial))))))
set_option maxRecDepth 100000 in
set_option maxHeartbeats 4000000 in
theorem tl0_X6_comesIn {S9 : SS} (hB : BB S) (h1 : 1 ≤ S 31 0) (h9 : S9 = cm S 0) : AW l D cA A ad yX6_comesIn cX6_comesIn 6 none rm_X6_comesIn (PR none (S9) sz) 0 0 lvR (VR (qw S 0 ((S 31 0).toNat - 1))) sz 86 [some (.inr (some (50, 0))), some (.inl 0), some (.inl (S 32 0)), some (.inl 0), some (.inl (cause S (S 32 0) 0)), none] [] := by
  have hm := hB.m
  simp only [bsm] at hm
  have hln := hB.ln (w := 0) (by decide) (by decide)
  have hli := hB.li (x := 0) (by decide) (by decide)
  have hsh := hB.sh hli.1 hli.2
  simp only [bsh] at hsh
  have hcb := cause_bd S (S 32 0) 0
  have hbq := BB_qw (w := 0) hB ((S 31 0).toNat - 1)
  have e31 : qw S 0 ((S 31 0).toNat - 1) 31 0 = S 31 0 := qw_ne (by decide) _ _
  have ecm : cm S 0 = if 0 ≤ cause S (S 32 0) 0 then wt (qw S 0 ((S 31 0).toNat - 1)) (7 * S 32 0 + cause S (S 32 0) 0) else ent (u2 (shf (u2 (qw S 0 ((S 31 0).toNat - 1)) 31 0 (S 31 0 - 1)) 32 0 (S 31 0 - 1).toNat) 19 (S 32 0) (S 0 0)) (S 32 0) 0 := by
    rw [cm, if_neg (by omega)]
    rfl
  refine aw_iload dX6_comesIn_86 rfl ?_
  refine aw_if_lt (tgt := 108) dX6_comesIn_88 (by decide) (by omega) (fun c_88 => ?_) (fun c_88 => ?_)
  · refine aw_aload_n dX6_comesIn_108 rfl rfl ?_
    refine rr_getA dX6_comesIn_109 flX6_93 rfl (by decide) ?_
    refine aw_iload_n dX6_comesIn_112 rfl rfl ?_
    refine aw_dup2 dX6_comesIn_113 ?_
    refine rr_iald (n := 2) (S0 := qw S 0 ((S 31 0).toNat - 1)) dX6_comesIn_114 rfl rfl rfl (by omega) (by omega) (fun _ => rfl) ?_
    refine aw_iconst dX6_comesIn_115 ?_
    refine aw_isub dX6_comesIn_116 ?_
    refine rr_iast (n := 2) dX6_comesIn_117 rfl rfl rfl (by omega) (by omega) ?_
    refine aw_iconst dX6_comesIn_118 ?_
    refine aw_istore dX6_comesIn_119 (by decide) ?_
    refine AW.lss (lp2_X6_comesIn (T := qw S 0 ((S 31 0).toNat - 1)) (w := 0) (by decide) (by omega) ?_ (qw S 0 ((S 31 0).toNat - 1) 31 0 - 1).toNat 0 (by omega)) (And.intro rfl (And.intro rfl (And.intro rfl (And.intro rfl (And.intro rfl (And.intro rfl trivial))))))
    rw [e31]
    refine aw_aload_n dX6_comesIn_164 rfl rfl ?_
    refine rr_getA dX6_comesIn_165 flX6_60 rfl (by decide) ?_
    refine aw_iload_n dX6_comesIn_168 rfl rfl ?_
    refine aw_aload_n dX6_comesIn_169 rfl rfl ?_
    refine rr_getS (S0 := S) dX6_comesIn_170 flX6_112 rfl (by decide) (fun _ => by rw [shf_ne (by decide), u2_ne (by decide), qw_ne (by decide)]) ?_
    refine rr_iast (n := 30) dX6_comesIn_173 rfl rfl rfl (by omega) (by omega) ?_
    refine aw_aload_n dX6_comesIn_174 rfl rfl ?_
    refine aw_iload_n dX6_comesIn_175 rfl rfl ?_
    refine aw_iload_n dX6_comesIn_176 rfl rfl ?_
    refine aw_callV (c_X6_enters (sec := 0) (by omega) (by rw [u2_ne (by decide), shf_ne (by decide), u2_ne (by decide), qw_ne (by decide)]; omega) (by rw [u2_ne (by decide), shf_ne (by decide), u2_ne (by decide), qw_ne (by decide)]; omega) (by decide) (by rw [u2_ne (k := 19) (k' := 9) (by decide), shf_ne (k := 9) (by decide), u2_ne (k' := 9) (by decide), qw_ne (k := 9) (by decide)]; have := hB.iM (a := 2 * 0 + S 9 (S 32 0)) (by omega) (by omega); rw [u2_ne (by decide), shf_ne (by decide), u2_ne (by decide), qw_ne (by decide)]; omega)) mv_X6_enters mlX6_152 dX6_comesIn_177 rfl rfl (by decide) rfl (Nat.le_of_ble_eq_true rfl) rfl ?_
    rintro _ _ _ _ ⟨rfl, rfl, rfl, rfl⟩
    refine aw_vret dX6_comesIn_180 rfl (Nat.zero_le _) (Nat.zero_le _) ?_
    rw [h9, ecm, if_neg (by omega)]
    exact ⟨rfl, rfl, rfl, rfl⟩
  · refine aw_aload_n dX6_comesIn_91 rfl rfl ?_
    refine rr_getA dX6_comesIn_92 flX6_72 rfl (by decide) ?_
    refine aw_bipush dX6_comesIn_95 (by decide) ?_
    refine aw_iload_n dX6_comesIn_97 rfl rfl ?_
    refine aw_imul dX6_comesIn_98 ?_
    refine aw_iload dX6_comesIn_99 rfl ?_
    refine aw_iadd dX6_comesIn_101 ?_
    refine aw_dup2 dX6_comesIn_102 ?_
    refine rr_iald (n := 210) (S0 := qw S 0 ((S 31 0).toNat - 1)) dX6_comesIn_103 rfl rfl rfl (by omega) (by omega) (fun _ => rfl) ?_
    refine aw_iconst dX6_comesIn_104 ?_
    refine aw_iadd dX6_comesIn_105 ?_
    refine rr_iast (n := 210) dX6_comesIn_106 rfl rfl rfl (by omega) (by omega) ?_
    refine aw_vret dX6_comesIn_107 rfl (Nat.zero_le _) (Nat.zero_le _) ?_
    rw [h9, ecm, if_pos (by omega)]
    exact ⟨rfl, rfl, rfl, rfl⟩
set_option maxRecDepth 100000 in
set_option maxHeartbeats 4000000 in
theorem c0_X6_comesIn (hB : BB S) : CT l D cA A ad yX6_comesIn cX6_comesIn 6 none rm_X6_comesIn [.inr (some (50, 0)), .inl 0] lvR (VR S) sz (PR none (cm S 0) sz) := by
  refine CT.of2 [some (.inr (some (50, 0))), some (.inl 0), none, none, none, none] (by decide) (Nat.le_of_ble_eq_true rfl) rfl ?_
  have hm := hB.m
  simp only [bsm] at hm
  have hln := hB.ln (w := 0) (by decide) (by decide)
  have hli := hB.li (x := 0) (by decide) (by decide)
  have hli2 := hB.li (x := 30 * 0) (by decide) (by decide)
  refine aw_aload_n dX6_comesIn_0 rfl rfl ?_
  refine rr_getA dX6_comesIn_1 flX6_93 rfl (by decide) ?_
  refine aw_iload_n dX6_comesIn_4 rfl rfl ?_
  refine rr_iald (n := 2) dX6_comesIn_5 rfl rfl rfl (by omega) (by omega) (fun _ => rfl) ?_
  refine aw_if_ne (tgt := 10) dX6_comesIn_6 (by decide) (by omega) (fun c_6 => ?_) (fun c_6 => ?_)
  · refine aw_aload_n dX6_comesIn_10 rfl rfl ?_
    refine rr_getA dX6_comesIn_11 flX6_96 rfl (by decide) ?_
    refine aw_bipush dX6_comesIn_14 (by decide) ?_
    refine aw_iload_n dX6_comesIn_16 rfl rfl ?_
    refine aw_imul dX6_comesIn_17 ?_
    refine rr_iald (n := 60) dX6_comesIn_18 rfl rfl rfl (by omega) (by omega) (fun _ => rfl) ?_
    refine aw_istore_n dX6_comesIn_19 rfl (by decide) ?_
    refine aw_iload_n dX6_comesIn_20 rfl rfl ?_
    refine aw_if_ne (tgt := 28) dX6_comesIn_21 (by decide) (by omega) (fun c_21 => absurd c_21 (by decide)) (fun c_21 => ?_)
    refine aw_iconst dX6_comesIn_24 ?_
    refine aw_goto (tgt := 30) dX6_comesIn_25 (by decide) ?_
    refine aw_istore_n dX6_comesIn_30 rfl (by decide) ?_
    refine aw_aload_n dX6_comesIn_31 rfl rfl ?_
    refine aw_iload_n dX6_comesIn_32 rfl rfl ?_
    refine aw_iload_n dX6_comesIn_33 rfl rfl ?_
    refine aw_callV (c_X6_cause (sec := 0) hB (by omega) (by decide)) mv_X6_cause mlX6_148 dX6_comesIn_34 rfl rfl (by decide) rfl (Nat.le_of_ble_eq_true rfl) rfl ?_
    rintro _ _ _ _ ⟨rfl, rfl, rfl, rfl⟩
    refine aw_istore dX6_comesIn_37 (by decide) ?_
    refine aw_iconst dX6_comesIn_39 ?_
    refine aw_istore dX6_comesIn_40 (by decide) ?_
    exact AW.lss (lp1_X6_comesIn hB (w := 0) (by decide) (by omega) (tl0_X6_comesIn hB (by omega) rfl) ((S 31 0).toNat - 1) 0 (by omega)) (And.intro rfl (And.intro rfl (And.intro rfl (And.intro rfl (And.intro rfl (And.intro rfl trivial))))))
  · refine aw_vret dX6_comesIn_9 rfl (Nat.zero_le _) (Nat.zero_le _) ?_
    rw [cm, if_pos c_6]
    exact ⟨rfl, rfl, rfl, rfl⟩
set_option maxRecDepth 100000 in
set_option maxHeartbeats 4000000 in
theorem tl1_X6_comesIn {S9 : SS} (hB : BB S) (h1 : 1 ≤ S 31 1) (h9 : S9 = cm S 1) : AW l D cA A ad yX6_comesIn cX6_comesIn 6 none rm_X6_comesIn (PR none (S9) sz) 0 0 lvR (VR (qw S 1 ((S 31 1).toNat - 1))) sz 86 [some (.inr (some (50, 0))), some (.inl 1), some (.inl (S 32 30)), some (.inl 7), some (.inl (cause S (S 32 30) 7)), none] [] := by
  have hm := hB.m
  simp only [bsm] at hm
  have hln := hB.ln (w := 1) (by decide) (by decide)
  have hli := hB.li (x := 30) (by decide) (by decide)
  have hsh := hB.sh hli.1 hli.2
  simp only [bsh] at hsh
  have hcb := cause_bd S (S 32 30) 7
  have hbq := BB_qw (w := 1) hB ((S 31 1).toNat - 1)
  have e31 : qw S 1 ((S 31 1).toNat - 1) 31 1 = S 31 1 := qw_ne (by decide) _ _
  have ecm : cm S 1 = if 0 ≤ cause S (S 32 30) 7 then wt (qw S 1 ((S 31 1).toNat - 1)) (7 * S 32 30 + cause S (S 32 30) 7) else ent (u2 (shf (u2 (qw S 1 ((S 31 1).toNat - 1)) 31 1 (S 31 1 - 1)) 32 30 (S 31 1 - 1).toNat) 19 (S 32 30) (S 0 0)) (S 32 30) 7 := by
    rw [cm, if_neg (by omega)]
    rfl
  refine aw_iload dX6_comesIn_86 rfl ?_
  refine aw_if_lt (tgt := 108) dX6_comesIn_88 (by decide) (by omega) (fun c_88 => ?_) (fun c_88 => ?_)
  · refine aw_aload_n dX6_comesIn_108 rfl rfl ?_
    refine rr_getA dX6_comesIn_109 flX6_93 rfl (by decide) ?_
    refine aw_iload_n dX6_comesIn_112 rfl rfl ?_
    refine aw_dup2 dX6_comesIn_113 ?_
    refine rr_iald (n := 2) (S0 := qw S 1 ((S 31 1).toNat - 1)) dX6_comesIn_114 rfl rfl rfl (by omega) (by omega) (fun _ => rfl) ?_
    refine aw_iconst dX6_comesIn_115 ?_
    refine aw_isub dX6_comesIn_116 ?_
    refine rr_iast (n := 2) dX6_comesIn_117 rfl rfl rfl (by omega) (by omega) ?_
    refine aw_iconst dX6_comesIn_118 ?_
    refine aw_istore dX6_comesIn_119 (by decide) ?_
    refine AW.lss (lp2_X6_comesIn (T := qw S 1 ((S 31 1).toNat - 1)) (w := 1) (by decide) (by omega) ?_ (qw S 1 ((S 31 1).toNat - 1) 31 1 - 1).toNat 0 (by omega)) (And.intro rfl (And.intro rfl (And.intro rfl (And.intro rfl (And.intro rfl (And.intro rfl trivial))))))
    rw [e31]
    refine aw_aload_n dX6_comesIn_164 rfl rfl ?_
    refine rr_getA dX6_comesIn_165 flX6_60 rfl (by decide) ?_
    refine aw_iload_n dX6_comesIn_168 rfl rfl ?_
    refine aw_aload_n dX6_comesIn_169 rfl rfl ?_
    refine rr_getS (S0 := S) dX6_comesIn_170 flX6_112 rfl (by decide) (fun _ => by rw [shf_ne (by decide), u2_ne (by decide), qw_ne (by decide)]) ?_
    refine rr_iast (n := 30) dX6_comesIn_173 rfl rfl rfl (by omega) (by omega) ?_
    refine aw_aload_n dX6_comesIn_174 rfl rfl ?_
    refine aw_iload_n dX6_comesIn_175 rfl rfl ?_
    refine aw_iload_n dX6_comesIn_176 rfl rfl ?_
    refine aw_callV (c_X6_enters (sec := 7) (by omega) (by rw [u2_ne (by decide), shf_ne (by decide), u2_ne (by decide), qw_ne (by decide)]; omega) (by rw [u2_ne (by decide), shf_ne (by decide), u2_ne (by decide), qw_ne (by decide)]; omega) (by decide) (by rw [u2_ne (k := 19) (k' := 9) (by decide), shf_ne (k := 9) (by decide), u2_ne (k' := 9) (by decide), qw_ne (k := 9) (by decide)]; have := hB.iM (a := 2 * 7 + S 9 (S 32 30)) (by omega) (by omega); rw [u2_ne (by decide), shf_ne (by decide), u2_ne (by decide), qw_ne (by decide)]; omega)) mv_X6_enters mlX6_152 dX6_comesIn_177 rfl rfl (by decide) rfl (Nat.le_of_ble_eq_true rfl) rfl ?_
    rintro _ _ _ _ ⟨rfl, rfl, rfl, rfl⟩
    refine aw_vret dX6_comesIn_180 rfl (Nat.zero_le _) (Nat.zero_le _) ?_
    rw [h9, ecm, if_neg (by omega)]
    exact ⟨rfl, rfl, rfl, rfl⟩
  · refine aw_aload_n dX6_comesIn_91 rfl rfl ?_
    refine rr_getA dX6_comesIn_92 flX6_72 rfl (by decide) ?_
    refine aw_bipush dX6_comesIn_95 (by decide) ?_
    refine aw_iload_n dX6_comesIn_97 rfl rfl ?_
    refine aw_imul dX6_comesIn_98 ?_
    refine aw_iload dX6_comesIn_99 rfl ?_
    refine aw_iadd dX6_comesIn_101 ?_
    refine aw_dup2 dX6_comesIn_102 ?_
    refine rr_iald (n := 210) (S0 := qw S 1 ((S 31 1).toNat - 1)) dX6_comesIn_103 rfl rfl rfl (by omega) (by omega) (fun _ => rfl) ?_
    refine aw_iconst dX6_comesIn_104 ?_
    refine aw_iadd dX6_comesIn_105 ?_
    refine rr_iast (n := 210) dX6_comesIn_106 rfl rfl rfl (by omega) (by omega) ?_
    refine aw_vret dX6_comesIn_107 rfl (Nat.zero_le _) (Nat.zero_le _) ?_
    rw [h9, ecm, if_pos (by omega)]
    exact ⟨rfl, rfl, rfl, rfl⟩
set_option maxRecDepth 100000 in
set_option maxHeartbeats 4000000 in
theorem c1_X6_comesIn (hB : BB S) : CT l D cA A ad yX6_comesIn cX6_comesIn 6 none rm_X6_comesIn [.inr (some (50, 0)), .inl 1] lvR (VR S) sz (PR none (cm S 1) sz) := by
  refine CT.of2 [some (.inr (some (50, 0))), some (.inl 1), none, none, none, none] (by decide) (Nat.le_of_ble_eq_true rfl) rfl ?_
  have hm := hB.m
  simp only [bsm] at hm
  have hln := hB.ln (w := 1) (by decide) (by decide)
  have hli := hB.li (x := 30) (by decide) (by decide)
  have hli2 := hB.li (x := 30 * 1) (by decide) (by decide)
  refine aw_aload_n dX6_comesIn_0 rfl rfl ?_
  refine rr_getA dX6_comesIn_1 flX6_93 rfl (by decide) ?_
  refine aw_iload_n dX6_comesIn_4 rfl rfl ?_
  refine rr_iald (n := 2) dX6_comesIn_5 rfl rfl rfl (by omega) (by omega) (fun _ => rfl) ?_
  refine aw_if_ne (tgt := 10) dX6_comesIn_6 (by decide) (by omega) (fun c_6 => ?_) (fun c_6 => ?_)
  · refine aw_aload_n dX6_comesIn_10 rfl rfl ?_
    refine rr_getA dX6_comesIn_11 flX6_96 rfl (by decide) ?_
    refine aw_bipush dX6_comesIn_14 (by decide) ?_
    refine aw_iload_n dX6_comesIn_16 rfl rfl ?_
    refine aw_imul dX6_comesIn_17 ?_
    refine rr_iald (n := 60) dX6_comesIn_18 rfl rfl rfl (by omega) (by omega) (fun _ => rfl) ?_
    refine aw_istore_n dX6_comesIn_19 rfl (by decide) ?_
    refine aw_iload_n dX6_comesIn_20 rfl rfl ?_
    refine aw_if_ne (tgt := 28) dX6_comesIn_21 (by decide) (by omega) (fun c_21 => ?_) (fun c_21 => absurd c_21 (by decide))
    refine aw_bipush dX6_comesIn_28 (by decide) ?_
    refine aw_istore_n dX6_comesIn_30 rfl (by decide) ?_
    refine aw_aload_n dX6_comesIn_31 rfl rfl ?_
    refine aw_iload_n dX6_comesIn_32 rfl rfl ?_
    refine aw_iload_n dX6_comesIn_33 rfl rfl ?_
    refine aw_callV (c_X6_cause (sec := 7) hB (by omega) (by decide)) mv_X6_cause mlX6_148 dX6_comesIn_34 rfl rfl (by decide) rfl (Nat.le_of_ble_eq_true rfl) rfl ?_
    rintro _ _ _ _ ⟨rfl, rfl, rfl, rfl⟩
    refine aw_istore dX6_comesIn_37 (by decide) ?_
    refine aw_iconst dX6_comesIn_39 ?_
    refine aw_istore dX6_comesIn_40 (by decide) ?_
    exact AW.lss (lp1_X6_comesIn hB (w := 1) (by decide) (by omega) (tl1_X6_comesIn hB (by omega) rfl) ((S 31 1).toNat - 1) 0 (by omega)) (And.intro rfl (And.intro rfl (And.intro rfl (And.intro rfl (And.intro rfl (And.intro rfl trivial))))))
  · refine aw_vret dX6_comesIn_9 rfl (Nat.zero_le _) (Nat.zero_le _) ?_
    rw [cm, if_pos c_6]
    exact ⟨rfl, rfl, rfl, rfl⟩
end REF5
end
section
section REF6
variable {l : Launch} {D : va_G} {cA : Nat → ClassId} {A : Nat → Prop} {ad : Ad} {lv : Lw} {V : Vw} {sz : Nat} {S : SS}
theorem aw_icmp_leW {y : MethodName} {cc : ByteArray} {nL : Nat} {ret : Option FieldType} {R : Room} {Post : Pst} {cells slots pc : Nat} {L : List (Option AV)} {st : List AV} {a b : Int} {off : Int} {tgt : Nat} (hd : decode cc pc = .ok (.if_icmp .le off, 3)) (ht : (pc : Int) + off = (tgt : Int)) (kt : Int32.ofInt a ≤ Int32.ofInt b → AW l D cA A ad y cc nL ret R Post cells slots lv V sz tgt L st) (kf : ¬ Int32.ofInt a ≤ Int32.ofInt b → AW l D cA A ad y cc nL ret R Post cells slots lv V sz (pc + 3) L st) : AW l D cA A ad y cc nL ret R Post cells slots lv V sz pc L (.inl b :: .inl a :: st) := by
  intro p e s m args below meth c H locs ls X hA hH hS hL
  exact lv_icmp_le X.1 X.2.1 hd ht (fun h => kt h p e s m args below meth c H locs ls X hA hH hS hL) (fun h => kf h p e s m args below meth c H locs ls X hA hH hS hL)
def okT (S : SS) : Prop := BB S ∧ okS S ∧ BB (mt1 S) ∧ okLs (mt1 S) ∧ (∀ n : Nat, n < 8 → okM (7 - n) 0 (mvN (mt2 S) n 33 (2 * ((7 - n : Nat) : Int) + 0)).toNat (mvN (mt2 S) n) 0 false) ∧ (∀ n : Nat, n < 8 → okM n 1 (mvS (mt3 S) n 33 (2 * (n : Int) + 1)).toNat (mvS (mt3 S) n) 0 false) ∧ BB (mt4 S) ∧ BB (mt5 S) ∧ BB (mt6 S) ∧ (∀ x, mt6 S 0 x = S 0 x) ∧ ∀ x, mt6 S 8 x = S 8 x
def opMin (S : SS) (n : Int) : Int × SS := if ¬ (1 ≤ n ∧ n ≤ 300) then (-1, S) else if 10000 < S 0 0 + n then (-3, S) else (mts S n.toNat 0 0, mts S n.toNat)
def opTold (S : SS) (s w : Int) : Int := if ¬ ((0 ≤ s ∧ s ≤ S 8 0 - 1) ∧ (0 ≤ w ∧ w ≤ 8)) then -9 else if w = 0 then S 15 s else if w = 1 then (if 0 ≤ S 15 s ∧ S 15 s ≤ 7 then S 16 s else 0) else if w = 2 then (if S 17 s = 0 then 0 else 1) else if w = 3 then (if S 18 s = 0 then 0 else 1) else if w = 4 then S 19 s else if w = 5 then S 20 s else if w = 6 then dues S s else if w = 7 then S 21 s else S 22 s
def opWaited (S : SS) (s c : Int) : Int := if ¬ ((0 ≤ s ∧ s ≤ S 8 0 - 1) ∧ (-1 ≤ c ∧ c ≤ 6)) then -1 else wsum S s c 7
def opLine (S : SS) (w i : Int) : Int := if ¬ (0 ≤ w ∧ w ≤ 1) ∨ i < 0 then -1 else if i < S 31 w then S 32 (30 * w + i) else -4
def opIn (S : SS) (s w i : Int) : Int := if ¬ (0 ≤ s ∧ s ≤ 7) ∨ ¬ (0 ≤ w ∧ w ≤ 1) ∨ i < 0 then -1 else if i < S 33 (2 * s + w) then S 34 (30 * (2 * s + w) + i) else -4
def pOut (S : SS) (n : Nat) : Bool := decide (S 15 n = 8)
def pLeft (S : SS) (n : Nat) : Bool := decide (S 18 n ≠ 0)
def pLate (S : SS) (n : Nat) : Bool := decide (S 17 n ≠ 0)
def pIn (S : SS) (n : Nat) : Bool := decide (0 ≤ S 15 n ∧ S 15 n < 8)
def opCnt (S : SS) (w : Int) : Int := if w = 0 then S 8 0 else if w = 1 then S 24 0 else if w = 2 then S 0 0 else if w = 3 then cnt (pOut S) (S 8 0).toNat else if w = 4 then cnt (pLeft S) (S 8 0).toNat else if w = 5 then cnt (pLate S) (S 8 0).toNat else if w = 6 then cnt (pIn S) (S 8 0).toNat else if w = 7 then sev S 8 else -1
theorem mt2_eq (S : SS) : lts (mt1 S) (mt1 S 8 0).toNat = mt2 S := by
  rw [mt2, mt1, sts_ne (k := 8) (by decide) (by decide)]
set_option maxRecDepth 100000 in
set_option maxHeartbeats 4000000 in
theorem lp4_X6_minutes {T S9 : SS} {n : Int} {k : Nat} (hB : BB T) (hk : AW l D cA A ad yX6_minutes cX6_minutes 4 (some .int) rm_X6_minutes (PR (some (.inl (S9 0 0))) (S9) sz) 0 0 lvR (VR (agd T (T 8 0).toNat)) sz 131 [some (.inr (some (50, 0))), some (.inl n), some (.inl (k : Int)), none] []) : ∀ (f j : Nat), j + f = (T 8 0).toNat → AW l D cA A ad yX6_minutes cX6_minutes 4 (some .int) rm_X6_minutes (PR (some (.inl (S9 0 0))) (S9) sz) 0 0 lvR (VR (agd T j)) sz 94 [some (.inr (some (50, 0))), some (.inl n), some (.inl (k : Int)), some (.inl ((j : Int)))] [] := by
  have hm := hB.m
  simp only [bsm] at hm
  intro f
  induction f with
  | zero =>
    intro j hj
    refine aw_iload_n dX6_minutes_94 rfl rfl ?_
    refine aw_aload_n dX6_minutes_95 rfl rfl ?_
    refine rr_getS (S0 := T) dX6_minutes_96 flX6_119 rfl (by decide) (fun _ => agd_ne (by decide) _ _) ?_
    refine aw_icmp_ge (tgt := 131) dX6_minutes_99 (by decide) (by omega) (by omega) (fun c_99 => ?_) (fun c_99 => absurd c_99 (by omega))
    rw [show j = (T 8 0).toNat by omega]
    exact AW.lss hk (And.intro rfl (And.intro rfl (And.intro rfl trivial)))
  | succ f ih =>
    intro j hj
    have hsh := hB.sh (s := (j : Int)) (by omega) (by omega)
    simp only [bsh] at hsh
    have e21 : agd T j 21 j = T 21 j := agd_hi j j (by omega)
    have hr21 : Rg (agd T j 21 j) := by rw [e21]; omega
    refine aw_iload_n dX6_minutes_94 rfl rfl ?_
    refine aw_aload_n dX6_minutes_95 rfl rfl ?_
    refine rr_getS (S0 := T) dX6_minutes_96 flX6_119 rfl (by decide) (fun _ => agd_ne (by decide) _ _) ?_
    refine aw_icmp_ge (tgt := 131) dX6_minutes_99 (by decide) (by omega) (by omega) (fun c_99 => absurd c_99 (by omega)) (fun c_99 => ?_)
    refine aw_aload_n dX6_minutes_102 rfl rfl ?_
    refine rr_getA dX6_minutes_103 flX6_66 rfl (by decide) ?_
    refine aw_iload_n dX6_minutes_106 rfl rfl ?_
    refine aw_dup2 dX6_minutes_107 ?_
    refine rr_iald (n := 30) (S0 := agd T j) dX6_minutes_108 rfl rfl rfl (by omega) (by omega) (fun _ => rfl) ?_
    refine aw_aload_n dX6_minutes_109 rfl rfl ?_
    refine rr_getA dX6_minutes_110 flX6_66 rfl (by decide) ?_
    refine aw_iload_n dX6_minutes_113 rfl rfl ?_
    refine rr_iald (n := 30) (S0 := agd T j) dX6_minutes_114 rfl rfl rfl (by omega) (by omega) (fun _ => rfl) ?_
    refine aw_if_le (tgt := 122) dX6_minutes_115 (by decide) (by omega) (fun c_115 => ?_) (fun c_115 => ?_)
    · refine aw_iconst dX6_minutes_122 ?_
      refine aw_isub dX6_minutes_123 ?_
      refine rr_iast (n := 30) dX6_minutes_124 rfl rfl rfl (by omega) (by omega) ?_
      refine aw_iinc dX6_minutes_125 rfl (by decide) ?_
      refine aw_goto (tgt := 94) dX6_minutes_128 (by decide) ?_
      refine AW.lsV (ih (j + 1) (by omega)) (And.intro rfl (And.intro rfl (And.intro rfl (And.intro rfl trivial)))) ?_
      congr 1
      rw [agd, e21]
      first | rw [if_pos (by omega)] | rw [if_neg (by omega)]
    · refine aw_iconst dX6_minutes_118 ?_
      refine aw_goto (tgt := 123) dX6_minutes_119 (by decide) ?_
      refine aw_isub dX6_minutes_123 ?_
      refine rr_iast (n := 30) dX6_minutes_124 rfl rfl rfl (by omega) (by omega) ?_
      refine aw_iinc dX6_minutes_125 rfl (by decide) ?_
      refine aw_goto (tgt := 94) dX6_minutes_128 (by decide) ?_
      refine AW.lsV (ih (j + 1) (by omega)) (And.intro rfl (And.intro rfl (And.intro rfl (And.intro rfl trivial)))) ?_
      congr 1
      rw [agd, e21]
      first | rw [if_pos (by omega)] | rw [if_neg (by omega)]
set_option maxRecDepth 100000 in
set_option maxHeartbeats 4000000 in
theorem lp3_X6_minutes {T S9 : SS} {n : Int} {k : Nat} (hok : ∀ j : Nat, j < 8 → okM j 1 (mvS T j 33 (2 * (j : Int) + 1)).toNat (mvS T j) 0 false) (hk : AW l D cA A ad yX6_minutes cX6_minutes 4 (some .int) rm_X6_minutes (PR (some (.inl (S9 0 0))) (S9) sz) 0 0 lvR (VR (mvS T 8)) sz 82 [some (.inr (some (50, 0))), some (.inl n), some (.inl (k : Int)), none] []) : ∀ (f j : Nat), j + f = 8 → AW l D cA A ad yX6_minutes cX6_minutes 4 (some .int) rm_X6_minutes (PR (some (.inl (S9 0 0))) (S9) sz) 0 0 lvR (VR (mvS T j)) sz 64 [some (.inr (some (50, 0))), some (.inl n), some (.inl (k : Int)), some (.inl ((j : Int)))] [] := by
  intro f
  induction f with
  | zero =>
    intro j hj
    refine aw_iload_n dX6_minutes_64 rfl rfl ?_
    refine aw_bipush dX6_minutes_65 (by decide) ?_
    refine aw_icmp_ge (tgt := 82) dX6_minutes_67 (by decide) (by omega) (by omega) (fun c_67 => ?_) (fun c_67 => absurd c_67 (by omega))
    rw [show j = 8 by omega]
    exact AW.lss hk (And.intro rfl (And.intro rfl (And.intro rfl trivial)))
  | succ f ih =>
    intro j hj
    refine aw_iload_n dX6_minutes_64 rfl rfl ?_
    refine aw_bipush dX6_minutes_65 (by decide) ?_
    refine aw_icmp_ge (tgt := 82) dX6_minutes_67 (by decide) (by omega) (by omega) (fun c_67 => absurd c_67 (by omega)) (fun c_67 => ?_)
    refine aw_aload_n dX6_minutes_70 rfl rfl ?_
    refine aw_iload_n dX6_minutes_71 rfl rfl ?_
    refine aw_iconst dX6_minutes_72 ?_
    refine aw_callV (c_X6_moves (sec := j) (w := 1) (by omega) (Or.inr rfl) (hok j (by omega))) mv_X6_moves mlX6_161 dX6_minutes_73 rfl rfl (by decide) rfl (Nat.le_of_ble_eq_true rfl) rfl ?_
    rintro _ _ _ _ ⟨rfl, rfl, rfl, rfl⟩
    refine aw_iinc dX6_minutes_76 rfl (by decide) ?_
    refine aw_goto (tgt := 64) dX6_minutes_79 (by decide) ?_
    exact AW.lss (ih (j + 1) (by omega)) (And.intro rfl (And.intro rfl (And.intro rfl (And.intro rfl trivial))))
set_option maxRecDepth 100000 in
set_option maxHeartbeats 4000000 in
theorem lp2_X6_minutes {T S9 : SS} {n : Int} {k : Nat} (hok : ∀ j : Nat, j < 8 → okM (7 - j) 0 (mvN T j 33 (2 * ((7 - j : Nat) : Int) + 0)).toNat (mvN T j) 0 false) (hk : AW l D cA A ad yX6_minutes cX6_minutes 4 (some .int) rm_X6_minutes (PR (some (.inl (S9 0 0))) (S9) sz) 0 0 lvR (VR (mvN T 8)) sz 62 [some (.inr (some (50, 0))), some (.inl n), some (.inl (k : Int)), none] []) : ∀ (f j : Nat), j + f = 8 → AW l D cA A ad yX6_minutes cX6_minutes 4 (some .int) rm_X6_minutes (PR (some (.inl (S9 0 0))) (S9) sz) 0 0 lvR (VR (mvN T j)) sz 46 [some (.inr (some (50, 0))), some (.inl n), some (.inl (k : Int)), some (.inl (7 - (j : Int)))] [] := by
  intro f
  induction f with
  | zero =>
    intro j hj
    refine aw_iload_n dX6_minutes_46 rfl rfl ?_
    refine aw_if_lt (tgt := 62) dX6_minutes_47 (by decide) (by omega) (fun c_47 => ?_) (fun c_47 => absurd c_47 (by omega))
    rw [show j = 8 by omega]
    exact AW.lss hk (And.intro rfl (And.intro rfl (And.intro rfl trivial)))
  | succ f ih =>
    intro j hj
    have ej : (7 : Int) - j = ((7 - j : Nat) : Int) := by omega
    refine aw_iload_n dX6_minutes_46 rfl rfl ?_
    refine aw_if_lt (tgt := 62) dX6_minutes_47 (by decide) (by omega) (fun c_47 => absurd c_47 (by omega)) (fun c_47 => ?_)
    refine aw_aload_n dX6_minutes_50 rfl rfl ?_
    refine aw_iload_n dX6_minutes_51 rfl rfl ?_
    refine aw_iconst dX6_minutes_52 ?_
    rw [ej]
    refine aw_callV (c_X6_moves (sec := 7 - j) (w := 0) (by omega) (Or.inl rfl) (hok j (by omega))) mv_X6_moves mlX6_161 dX6_minutes_53 rfl rfl (by decide) rfl (Nat.le_of_ble_eq_true rfl) rfl ?_
    rintro _ _ _ _ ⟨rfl, rfl, rfl, rfl⟩
    refine aw_iinc dX6_minutes_56 rfl (by decide) ?_
    refine aw_goto (tgt := 46) dX6_minutes_59 (by decide) ?_
    exact AW.lss (ih (j + 1) (by omega)) (And.intro rfl (And.intro rfl (And.intro rfl (And.intro (congrArg Sum.inl (by omega)) trivial))))
set_option maxRecDepth 100000 in
set_option maxHeartbeats 4000000 in
theorem md_X6_minutes {T S9 : SS} {n : Int} {k : Nat} (hok : okT T) (hk : AW l D cA A ad yX6_minutes cX6_minutes 4 (some .int) rm_X6_minutes (PR (some (.inl (S9 0 0))) (S9) sz) 0 0 lvR (VR (mt T)) sz 141 [some (.inr (some (50, 0))), some (.inl n), some (.inl (k : Int)), none] []) : AW l D cA A ad yX6_minutes cX6_minutes 4 (some .int) rm_X6_minutes (PR (some (.inl (S9 0 0))) (S9) sz) 0 0 lvR (VR T) sz 35 [some (.inr (some (50, 0))), some (.inl n), some (.inl (k : Int)), none] [] := by
  obtain ⟨hB, o1, hB1, o2, o3, o4, b4, b5, b6, e0, e8⟩ := hok
  refine aw_aload_n dX6_minutes_35 rfl rfl ?_
  refine aw_callV (c_X6_starts hB o1) mv_X6_starts mlX6_155 dX6_minutes_36 rfl rfl (by decide) rfl (Nat.le_of_ble_eq_true rfl) rfl ?_
  rintro _ _ _ _ ⟨rfl, rfl, rfl, rfl⟩
  refine aw_aload_n dX6_minutes_39 rfl rfl ?_
  refine aw_callV (c_X6_lates hB1 o2) mv_X6_lates mlX6_158 dX6_minutes_40 rfl rfl (by decide) rfl (Nat.le_of_ble_eq_true rfl) rfl ?_
  rintro _ _ _ _ ⟨rfl, rfl, rfl, rfl⟩
  rw [show lts (sts T (T 24 0).toNat) (sts T (T 24 0).toNat 8 0).toNat = mt2 T from mt2_eq T]
  refine aw_bipush dX6_minutes_43 (by decide) ?_
  refine aw_istore_n dX6_minutes_45 rfl (by decide) ?_
  refine AW.lss (lp2_X6_minutes (T := mt2 T) o3 ?_ 8 0 (by omega)) (And.intro rfl (And.intro rfl (And.intro rfl (And.intro rfl trivial))))
  refine aw_iconst dX6_minutes_62 ?_
  refine aw_istore_n dX6_minutes_63 rfl (by decide) ?_
  refine AW.lss (lp3_X6_minutes (T := mt3 T) o4 ?_ 8 0 (by omega)) (And.intro rfl (And.intro rfl (And.intro rfl (And.intro rfl trivial))))
  refine aw_aload_n dX6_minutes_82 rfl rfl ?_
  refine aw_iconst dX6_minutes_83 ?_
  refine aw_callV (c0_X6_comesIn b4) mv_X6_comesIn mlX6_164 dX6_minutes_84 rfl rfl (by decide) rfl (Nat.le_of_ble_eq_true rfl) rfl ?_
  rintro _ _ _ _ ⟨rfl, rfl, rfl, rfl⟩
  refine aw_aload_n dX6_minutes_87 rfl rfl ?_
  refine aw_iconst dX6_minutes_88 ?_
  refine aw_callV (c1_X6_comesIn b5) mv_X6_comesIn mlX6_164 dX6_minutes_89 rfl rfl (by decide) rfl (Nat.le_of_ble_eq_true rfl) rfl ?_
  rintro _ _ _ _ ⟨rfl, rfl, rfl, rfl⟩
  refine aw_iconst dX6_minutes_92 ?_
  refine aw_istore_n dX6_minutes_93 rfl (by decide) ?_
  refine AW.lss (lp4_X6_minutes (T := mt6 T) b6 ?_ (mt6 T 8 0).toNat 0 (by omega)) (And.intro rfl (And.intro rfl (And.intro rfl (And.intro rfl trivial))))
  rw [e8]
  refine aw_aload_n dX6_minutes_131 rfl rfl ?_
  refine aw_dup dX6_minutes_132 ?_
  refine rr_getS (S0 := T) dX6_minutes_133 flX6_112 rfl (by decide) (fun _ => by rw [agd_ne (by decide)]; exact e0 _) ?_
  refine aw_iconst dX6_minutes_136 ?_
  refine aw_iadd dX6_minutes_137 ?_
  refine rr_put dX6_minutes_138 flX6_112 rfl (by decide) rfl trivial ?_
  exact AW.lss hk (And.intro rfl (And.intro rfl (And.intro rfl trivial)))
set_option maxRecDepth 100000 in
set_option maxHeartbeats 4000000 in
theorem lp_X6_minutes {S9 : SS} {n : Int} (hn : 0 ≤ n ∧ n ≤ 300) (hok : ∀ j : Nat, j < n.toNat → okT (mts S j)) (h9 : S9 = mts S n.toNat) : ∀ (f k : Nat), k + f = n.toNat → AW l D cA A ad yX6_minutes cX6_minutes 4 (some .int) rm_X6_minutes (PR (some (.inl (S9 0 0))) (S9) sz) 0 0 lvR (VR (mts S k)) sz 30 [some (.inr (some (50, 0))), some (.inl n), some (.inl (k : Int)), none] [] := by
  intro f
  induction f with
  | zero =>
    intro k hk
    refine aw_iload_n dX6_minutes_30 rfl rfl ?_
    refine aw_iload_n dX6_minutes_31 rfl rfl ?_
    refine aw_icmp_ge (tgt := 147) dX6_minutes_32 (by decide) (by omega) (by omega) (fun c_32 => ?_) (fun c_32 => absurd c_32 (by omega))
    refine aw_aload_n dX6_minutes_147 rfl rfl ?_
    refine rr_getS dX6_minutes_148 flX6_112 rfl (by decide) (fun _ => rfl) ?_
    refine aw_iret dX6_minutes_151 rfl (Nat.zero_le _) (Nat.zero_le _) ?_
    rw [h9, show n.toNat = k by omega]
    exact ⟨rfl, rfl, rfl, rfl⟩
  | succ f ih =>
    intro k hk
    have ih2 := ih (k + 1) (by omega)
    refine aw_iload_n dX6_minutes_30 rfl rfl ?_
    refine aw_iload_n dX6_minutes_31 rfl rfl ?_
    refine aw_icmp_ge (tgt := 147) dX6_minutes_32 (by decide) (by omega) (by omega) (fun c_32 => absurd c_32 (by omega)) (fun c_32 => ?_)
    refine md_X6_minutes (hok k (by omega)) ?_
    refine aw_iinc dX6_minutes_141 rfl (by decide) ?_
    refine aw_goto (tgt := 30) dX6_minutes_144 (by decide) ?_
    exact AW.lss ih2 (And.intro rfl (And.intro rfl (And.intro rfl trivial)))
set_option maxRecDepth 100000 in
set_option maxHeartbeats 4000000 in
theorem c_X6_minutes {n : Int} (hB : BB S) (hn : Rg n) (hok : 1 ≤ n ∧ n ≤ 300 → S 0 0 + n ≤ 10000 → ∀ j : Nat, j < n.toNat → okT (mts S j)) : CT l D cA A ad yX6_minutes cX6_minutes 4 (some .int) rm_X6_minutes [.inr (some (50, 0)), .inl n] lvR (VR S) sz (PR (some (.inl (opMin S n).1)) ((opMin S n).2) sz) := by
  refine CT.of2 [some (.inr (some (50, 0))), some (.inl n), none, none] (by decide) (Nat.le_of_ble_eq_true rfl) rfl ?_
  have hm := hB.m
  simp only [bsm] at hm
  refine aw_iload_n dX6_minutes_0 rfl rfl ?_
  refine aw_iconst dX6_minutes_1 ?_
  refine aw_sipush dX6_minutes_2 (by decide) ?_
  refine aw_callS (c_X6_isIn (by omega) (by omega) (by omega)) mv_X6_isIn mlX6_108 dX6_minutes_5 (by decide) rfl (Nat.le_of_ble_eq_true rfl) rfl ?_
  rintro _ _ _ _ ⟨⟨rfl, h1⟩ | ⟨rfl, h1⟩, rfl, rfl, rfl⟩
  · refine aw_if_ne (tgt := 13) dX6_minutes_8 (by decide) (by omega) (fun _ => ?_) (fun c_8 => absurd c_8 (by decide))
    refine aw_aload_n dX6_minutes_13 rfl rfl ?_
    refine rr_getS dX6_minutes_14 flX6_112 rfl (by decide) (fun _ => rfl) ?_
    refine aw_iload_n dX6_minutes_17 rfl rfl ?_
    refine aw_iadd dX6_minutes_18 ?_
    refine aw_sipush dX6_minutes_19 (by decide) ?_
    refine aw_icmp_le (tgt := 28) dX6_minutes_22 (by decide) (by omega) (by omega) (fun c_22 => ?_) (fun c_22 => ?_)
    · refine aw_iconst dX6_minutes_28 ?_
      refine aw_istore_n dX6_minutes_29 rfl (by decide) ?_
      have e : opMin S n = (mts S n.toNat 0 0, mts S n.toNat) := by
        unfold opMin
        rw [if_neg (by omega), if_neg (by omega)]
      rw [e]
      exact AW.lss (lp_X6_minutes (by omega) (hok (by omega) (by omega)) rfl n.toNat 0 (by omega)) (And.intro rfl (And.intro rfl (And.intro rfl trivial)))
    · refine aw_bipush dX6_minutes_25 (by decide) ?_
      refine aw_iret dX6_minutes_27 rfl (Nat.zero_le _) (Nat.zero_le _) ?_
      have e : opMin S n = (-3, S) := by
        unfold opMin
        repeat (first | rw [if_pos (by omega)] | rw [if_neg (by omega)])
      rw [e]
      exact ⟨rfl, rfl, rfl, rfl⟩
  · refine aw_if_ne (tgt := 13) dX6_minutes_8 (by decide) (by omega) (fun c_8 => absurd c_8 (by decide)) (fun _ => ?_)
    refine aw_iconst dX6_minutes_11 ?_
    refine aw_iret dX6_minutes_12 rfl (Nat.zero_le _) (Nat.zero_le _) ?_
    have e : opMin S n = (-1, S) := by
      unfold opMin
      repeat (first | rw [if_pos (by omega)] | rw [if_neg (by omega)])
    rw [e]
    exact ⟨rfl, rfl, rfl, rfl⟩
set_option maxRecDepth 100000 in
set_option maxHeartbeats 4000000 in
theorem t2_X6_dues {s : Int} (hB : BB S) (hs : 0 ≤ s ∧ s < 30) : AW l D cA A ad yX6_dues cX6_dues 4 (some .int) rm_X6_dues (PR (some (.inl (dues S s))) (S) sz) 0 0 lvR (VR S) sz 70 [some (.inr (some (50, 0))), some (.inl s), some (.inl (S 14 s)), some (.inl (due1 (S 14 s) (S 17 s)))] [] := by
  have hsh := hB.sh hs.1 hs.2
  simp only [bsh] at hsh
  have h0 : 0 ≤ due0 (S 14 s) ∧ due0 (S 14 s) ≤ 1000000 := by simp only [due0]; split <;> (try split) <;> omega
  have h1 : 0 ≤ due1 (S 14 s) (S 17 s) ∧ due1 (S 14 s) (S 17 s) ≤ 2000000 := by simp only [due1]; split <;> omega
  refine aw_iload_n dX6_dues_70 rfl rfl ?_
  refine aw_aload_n dX6_dues_71 rfl rfl ?_
  refine rr_getA dX6_dues_72 flX6_72 rfl (by decide) ?_
  refine aw_bipush dX6_dues_75 (by decide) ?_
  refine aw_iload_n dX6_dues_77 rfl rfl ?_
  refine aw_imul dX6_dues_78 ?_
  refine rr_iald (n := 210) dX6_dues_79 rfl rfl rfl (by omega) (by omega) (fun _ => rfl) ?_
  refine aw_bipush dX6_dues_80 (by decide) ?_
  refine aw_icmp_leW (tgt := 92) dX6_dues_82 (by decide) (fun c_82 => ?_) (fun c_82 => ?_)
  · refine aw_iconst dX6_dues_92 ?_
    refine aw_isub dX6_dues_93 ?_
    refine aw_istore_n dX6_dues_94 rfl (by decide) ?_
    refine aw_iload_n dX6_dues_95 rfl rfl ?_
    refine aw_iret dX6_dues_96 rfl (Nat.zero_le _) (Nat.zero_le _) ?_
    rw [dues, if_pos c_82]
    exact ⟨rfl, rfl, rfl, rfl⟩
  · refine aw_iload_n dX6_dues_85 rfl rfl ?_
    refine aw_bipush dX6_dues_86 (by decide) ?_
    refine aw_idiv dX6_dues_88 (by omega) (by omega) (by omega) (by omega) ?_
    refine aw_goto (tgt := 93) dX6_dues_89 (by decide) ?_
    refine aw_isub dX6_dues_93 ?_
    refine aw_istore_n dX6_dues_94 rfl (by decide) ?_
    refine aw_iload_n dX6_dues_95 rfl rfl ?_
    refine aw_iret dX6_dues_96 rfl (Nat.zero_le _) (Nat.zero_le _) ?_
    rw [dues, if_neg c_82]
    exact ⟨rfl, rfl, rfl, rfl⟩
set_option maxRecDepth 100000 in
set_option maxHeartbeats 4000000 in
theorem t1_X6_dues {s : Int} (hB : BB S) (hs : 0 ≤ s ∧ s < 30) : AW l D cA A ad yX6_dues cX6_dues 4 (some .int) rm_X6_dues (PR (some (.inl (dues S s))) (S) sz) 0 0 lvR (VR S) sz 50 [some (.inr (some (50, 0))), some (.inl s), some (.inl (S 14 s)), some (.inl (due0 (S 14 s)))] [] := by
  have hsh := hB.sh hs.1 hs.2
  simp only [bsh] at hsh
  have h0 : 0 ≤ due0 (S 14 s) ∧ due0 (S 14 s) ≤ 1000000 := by simp only [due0]; split <;> (try split) <;> omega
  refine aw_iload_n dX6_dues_50 rfl rfl ?_
  refine aw_aload_n dX6_dues_51 rfl rfl ?_
  refine rr_getA dX6_dues_52 flX6_54 rfl (by decide) ?_
  refine aw_iload_n dX6_dues_55 rfl rfl ?_
  refine rr_zald (n := 30) dX6_dues_56 rfl rfl rfl (by omega) (by omega) (fun _ => rfl) ?_
  refine aw_if_eq (tgt := 67) dX6_dues_57 (by decide) (by omega) (fun c_57 => ?_) (fun c_57 => ?_)
  · refine aw_iconst dX6_dues_67 ?_
    refine aw_iadd dX6_dues_68 ?_
    refine aw_istore_n dX6_dues_69 rfl (by decide) ?_
    refine AW.lss (t2_X6_dues hB hs) (And.intro rfl (And.intro rfl (And.intro rfl (And.intro (congrArg Sum.inl ?_) trivial))))
    rw [due1]
    first | rw [if_pos (by omega)] | rw [if_neg (by omega)]
  · refine aw_iload_n dX6_dues_60 rfl rfl ?_
    refine aw_bipush dX6_dues_61 (by decide) ?_
    refine aw_idiv dX6_dues_63 (by omega) (by omega) (by omega) (by omega) ?_
    refine aw_goto (tgt := 68) dX6_dues_64 (by decide) ?_
    refine aw_iadd dX6_dues_68 ?_
    refine aw_istore_n dX6_dues_69 rfl (by decide) ?_
    refine AW.lss (t2_X6_dues hB hs) (And.intro rfl (And.intro rfl (And.intro rfl (And.intro (congrArg Sum.inl ?_) trivial))))
    rw [due1]
    first | rw [if_pos (by omega)] | rw [if_neg (by omega)]
set_option maxRecDepth 100000 in
set_option maxHeartbeats 4000000 in
theorem c_X6_dues {s : Int} (hB : BB S) (hs : 0 ≤ s ∧ s < 30) : CT l D cA A ad yX6_dues cX6_dues 4 (some .int) rm_X6_dues [.inr (some (50, 0)), .inl s] lvR (VR S) sz (PR (some (.inl (dues S s))) (S) sz) := by
  refine CT.of2 [some (.inr (some (50, 0))), some (.inl s), none, none] (by decide) (Nat.le_of_ble_eq_true rfl) rfl ?_
  have hsh := hB.sh hs.1 hs.2
  simp only [bsh] at hsh
  refine aw_aload_n dX6_dues_0 rfl rfl ?_
  refine rr_getA dX6_dues_1 flX6_45 rfl (by decide) ?_
  refine aw_iload_n dX6_dues_4 rfl rfl ?_
  refine rr_iald (n := 30) dX6_dues_5 rfl rfl rfl (by omega) (by omega) (fun _ => rfl) ?_
  refine aw_istore_n dX6_dues_6 rfl (by decide) ?_
  refine aw_iload_n dX6_dues_7 rfl rfl ?_
  refine aw_sipush dX6_dues_8 (by decide) ?_
  refine aw_icmp_gt (tgt := 20) dX6_dues_11 (by decide) (by omega) (by omega) (fun c_11 => ?_) (fun c_11 => ?_)
  · refine aw_iload_n dX6_dues_20 rfl rfl ?_
    refine aw_sipush dX6_dues_21 (by decide) ?_
    refine aw_icmp_gt (tgt := 41) dX6_dues_24 (by decide) (by omega) (by omega) (fun c_24 => ?_) (fun c_24 => ?_)
    · refine aw_ldc (n := 45000) dX6_dues_41 ctX6_167 (by decide) ?_
      refine aw_iload_n dX6_dues_43 rfl rfl ?_
      refine aw_iadd dX6_dues_44 ?_
      refine aw_sipush dX6_dues_45 (by decide) ?_
      refine aw_isub dX6_dues_48 ?_
      refine aw_istore_n dX6_dues_49 rfl (by decide) ?_
      refine AW.lss (t1_X6_dues hB hs) (And.intro rfl (And.intro rfl (And.intro rfl (And.intro (congrArg Sum.inl ?_) trivial))))
      rw [due0]
      first | rw [if_pos (by omega)] | rw [if_neg (by omega), if_pos (by omega)] | rw [if_neg (by omega), if_neg (by omega)]
    · refine aw_sipush dX6_dues_27 (by decide) ?_
      refine aw_iconst dX6_dues_30 ?_
      refine aw_iload_n dX6_dues_31 rfl rfl ?_
      refine aw_sipush dX6_dues_32 (by decide) ?_
      refine aw_isub dX6_dues_35 ?_
      refine aw_imul dX6_dues_36 ?_
      refine aw_iadd dX6_dues_37 ?_
      refine aw_goto (tgt := 49) dX6_dues_38 (by decide) ?_
      refine aw_istore_n dX6_dues_49 rfl (by decide) ?_
      refine AW.lss (t1_X6_dues hB hs) (And.intro rfl (And.intro rfl (And.intro rfl (And.intro (congrArg Sum.inl ?_) trivial))))
      rw [due0]
      first | rw [if_pos (by omega)] | rw [if_neg (by omega), if_pos (by omega)] | rw [if_neg (by omega), if_neg (by omega)]
  · refine aw_iconst dX6_dues_14 ?_
    refine aw_iload_n dX6_dues_15 rfl rfl ?_
    refine aw_imul dX6_dues_16 ?_
    refine aw_goto (tgt := 49) dX6_dues_17 (by decide) ?_
    refine aw_istore_n dX6_dues_49 rfl (by decide) ?_
    refine AW.lss (t1_X6_dues hB hs) (And.intro rfl (And.intro rfl (And.intro rfl (And.intro (congrArg Sum.inl ?_) trivial))))
    rw [due0]
    first | rw [if_pos (by omega)] | rw [if_neg (by omega), if_pos (by omega)] | rw [if_neg (by omega), if_neg (by omega)]
set_option maxRecDepth 100000 in
set_option maxHeartbeats 4000000 in
theorem c_X6_told {s w : Int} (hB : BB S) (hs : Rg s) (hw : Rg w) : CT l D cA A ad yX6_told cX6_told 3 (some .int) rm_X6_told [.inr (some (50, 0)), .inl s, .inl w] lvR (VR S) sz (PR (some (.inl (opTold S s w))) (S) sz) := by
  refine CT.of2 [some (.inr (some (50, 0))), some (.inl s), some (.inl w)] (by decide) (Nat.le_of_ble_eq_true rfl) rfl ?_
  have hm := hB.m
  simp only [bsm] at hm
  refine aw_iload_n dX6_told_0 rfl rfl ?_
  refine aw_iconst dX6_told_1 ?_
  refine aw_aload_n dX6_told_2 rfl rfl ?_
  refine rr_getS dX6_told_3 flX6_119 rfl (by decide) (fun _ => rfl) ?_
  refine aw_iconst dX6_told_6 ?_
  refine aw_isub dX6_told_7 ?_
  refine aw_callS (c_X6_isIn (by omega) (by omega) (by omega)) mv_X6_isIn mlX6_108 dX6_told_8 (by decide) rfl (Nat.le_of_ble_eq_true rfl) rfl ?_
  rintro _ _ _ _ ⟨⟨rfl, h1⟩ | ⟨rfl, h1⟩, rfl, rfl, rfl⟩
  · refine aw_if_eq (tgt := 24) dX6_told_11 (by decide) (by omega) (fun c_11 => absurd c_11 (by decide)) (fun _ => ?_)
    refine aw_iload_n dX6_told_14 rfl rfl ?_
    refine aw_iconst dX6_told_15 ?_
    refine aw_bipush dX6_told_16 (by decide) ?_
    refine aw_callS (c_X6_isIn (by omega) (by omega) (by omega)) mv_X6_isIn mlX6_108 dX6_told_18 (by decide) rfl (Nat.le_of_ble_eq_true rfl) rfl ?_
    rintro _ _ _ _ ⟨⟨rfl, h2⟩ | ⟨rfl, h2⟩, rfl, rfl, rfl⟩
    · refine aw_if_ne (tgt := 27) dX6_told_21 (by decide) (by omega) (fun _ => ?_) (fun c_21 => absurd c_21 (by decide))
      have hsh := hB.sh (s := s) (by omega) (by omega)
      simp only [bsh] at hsh
      rcases (show w = 0 ∨ w = 1 ∨ w = 2 ∨ w = 3 ∨ w = 4 ∨ w = 5 ∨ w = 6 ∨ w = 7 ∨ w = 8 by omega) with rfl | rfl | rfl | rfl | rfl | rfl | rfl | rfl | rfl
      · refine aw_iload_n dX6_told_27 rfl rfl ?_
        refine aw_tableIn (off := 48) (tgt := 76) dX6_told_28 (by decide) (by decide) (by decide) rfl (by decide) ?_
        refine aw_aload_n dX6_told_76 rfl rfl ?_
        refine rr_getA dX6_told_77 flX6_48 rfl (by decide) ?_
        refine aw_iload_n dX6_told_80 rfl rfl ?_
        refine rr_iald (n := 30) dX6_told_81 rfl rfl rfl (by omega) (by omega) (fun _ => rfl) ?_
        refine aw_iret dX6_told_82 rfl (Nat.zero_le _) (Nat.zero_le _) ?_
        unfold opTold
        rw [if_neg (by omega)]
        rw [if_pos rfl]
        exact ⟨rfl, rfl, rfl, rfl⟩
      · refine aw_iload_n dX6_told_27 rfl rfl ?_
        refine aw_tableIn (off := 55) (tgt := 83) dX6_told_28 (by decide) (by decide) (by decide) rfl (by decide) ?_
        refine aw_aload_n dX6_told_83 rfl rfl ?_
        refine rr_getA dX6_told_84 flX6_48 rfl (by decide) ?_
        refine aw_iload_n dX6_told_87 rfl rfl ?_
        refine rr_iald (n := 30) dX6_told_88 rfl rfl rfl (by omega) (by omega) (fun _ => rfl) ?_
        refine aw_iconst dX6_told_89 ?_
        refine aw_bipush dX6_told_90 (by decide) ?_
        refine aw_callS (c_X6_isIn (by omega) (by omega) (by omega)) mv_X6_isIn mlX6_108 dX6_told_92 (by decide) rfl (Nat.le_of_ble_eq_true rfl) rfl ?_
        rintro _ _ _ _ ⟨⟨rfl, h3⟩ | ⟨rfl, h3⟩, rfl, rfl, rfl⟩
        · refine aw_if_eq (tgt := 107) dX6_told_95 (by decide) (by omega) (fun c_95 => absurd c_95 (by decide)) (fun _ => ?_)
          refine aw_aload_n dX6_told_98 rfl rfl ?_
          refine rr_getA dX6_told_99 flX6_51 rfl (by decide) ?_
          refine aw_iload_n dX6_told_102 rfl rfl ?_
          refine rr_iald (n := 30) dX6_told_103 rfl rfl rfl (by omega) (by omega) (fun _ => rfl) ?_
          refine aw_goto (tgt := 108) dX6_told_104 (by decide) ?_
          refine aw_iret dX6_told_108 rfl (Nat.zero_le _) (Nat.zero_le _) ?_
          unfold opTold
          rw [if_neg (by omega)]
          rw [if_neg (by decide)]
          rw [if_pos rfl]
          first | rw [if_pos (by omega)] | rw [if_neg (by omega)]
          exact ⟨rfl, rfl, rfl, rfl⟩
        · refine aw_if_eq (tgt := 107) dX6_told_95 (by decide) (by omega) (fun _ => ?_) (fun c_95 => absurd c_95 (by decide))
          refine aw_iconst dX6_told_107 ?_
          refine aw_iret dX6_told_108 rfl (Nat.zero_le _) (Nat.zero_le _) ?_
          unfold opTold
          rw [if_neg (by omega)]
          rw [if_neg (by decide)]
          rw [if_pos rfl]
          first | rw [if_pos (by omega)] | rw [if_neg (by omega)]
          exact ⟨rfl, rfl, rfl, rfl⟩
      · refine aw_iload_n dX6_told_27 rfl rfl ?_
        refine aw_tableIn (off := 81) (tgt := 109) dX6_told_28 (by decide) (by decide) (by decide) rfl (by decide) ?_
        refine aw_aload_n dX6_told_109 rfl rfl ?_
        refine rr_getA dX6_told_110 flX6_54 rfl (by decide) ?_
        refine aw_iload_n dX6_told_113 rfl rfl ?_
        refine rr_zald (n := 30) dX6_told_114 rfl rfl rfl (by omega) (by omega) (fun _ => rfl) ?_
        refine aw_if_eq (tgt := 122) dX6_told_115 (by decide) (by omega) (fun c_115 => ?_) (fun c_115 => ?_)
        · refine aw_iconst dX6_told_122 ?_
          refine aw_iret dX6_told_123 rfl (Nat.zero_le _) (Nat.zero_le _) ?_
          unfold opTold
          rw [if_neg (by omega)]
          rw [if_neg (by decide)]
          rw [if_neg (by decide)]
          rw [if_pos rfl]
          first | rw [if_pos (by omega)] | rw [if_neg (by omega)]
          exact ⟨rfl, rfl, rfl, rfl⟩
        · refine aw_iconst dX6_told_118 ?_
          refine aw_goto (tgt := 123) dX6_told_119 (by decide) ?_
          refine aw_iret dX6_told_123 rfl (Nat.zero_le _) (Nat.zero_le _) ?_
          unfold opTold
          rw [if_neg (by omega)]
          rw [if_neg (by decide)]
          rw [if_neg (by decide)]
          rw [if_pos rfl]
          first | rw [if_pos (by omega)] | rw [if_neg (by omega)]
          exact ⟨rfl, rfl, rfl, rfl⟩
      · refine aw_iload_n dX6_told_27 rfl rfl ?_
        refine aw_tableIn (off := 96) (tgt := 124) dX6_told_28 (by decide) (by decide) (by decide) rfl (by decide) ?_
        refine aw_aload_n dX6_told_124 rfl rfl ?_
        refine rr_getA dX6_told_125 flX6_57 rfl (by decide) ?_
        refine aw_iload_n dX6_told_128 rfl rfl ?_
        refine rr_zald (n := 30) dX6_told_129 rfl rfl rfl (by omega) (by omega) (fun _ => rfl) ?_
        refine aw_if_eq (tgt := 137) dX6_told_130 (by decide) (by omega) (fun c_130 => ?_) (fun c_130 => ?_)
        · refine aw_iconst dX6_told_137 ?_
          refine aw_iret dX6_told_138 rfl (Nat.zero_le _) (Nat.zero_le _) ?_
          unfold opTold
          rw [if_neg (by omega)]
          rw [if_neg (by decide)]
          rw [if_neg (by decide)]
          rw [if_neg (by decide)]
          rw [if_pos rfl]
          first | rw [if_pos (by omega)] | rw [if_neg (by omega)]
          exact ⟨rfl, rfl, rfl, rfl⟩
        · refine aw_iconst dX6_told_133 ?_
          refine aw_goto (tgt := 138) dX6_told_134 (by decide) ?_
          refine aw_iret dX6_told_138 rfl (Nat.zero_le _) (Nat.zero_le _) ?_
          unfold opTold
          rw [if_neg (by omega)]
          rw [if_neg (by decide)]
          rw [if_neg (by decide)]
          rw [if_neg (by decide)]
          rw [if_pos rfl]
          first | rw [if_pos (by omega)] | rw [if_neg (by omega)]
          exact ⟨rfl, rfl, rfl, rfl⟩
      · refine aw_iload_n dX6_told_27 rfl rfl ?_
        refine aw_tableIn (off := 111) (tgt := 139) dX6_told_28 (by decide) (by decide) (by decide) rfl (by decide) ?_
        refine aw_aload_n dX6_told_139 rfl rfl ?_
        refine rr_getA dX6_told_140 flX6_60 rfl (by decide) ?_
        refine aw_iload_n dX6_told_143 rfl rfl ?_
        refine rr_iald (n := 30) dX6_told_144 rfl rfl rfl (by omega) (by omega) (fun _ => rfl) ?_
        refine aw_iret dX6_told_145 rfl (Nat.zero_le _) (Nat.zero_le _) ?_
        unfold opTold
        rw [if_neg (by omega)]
        rw [if_neg (by decide)]
        rw [if_neg (by decide)]
        rw [if_neg (by decide)]
        rw [if_neg (by decide)]
        rw [if_pos rfl]
        exact ⟨rfl, rfl, rfl, rfl⟩
      · refine aw_iload_n dX6_told_27 rfl rfl ?_
        refine aw_tableIn (off := 118) (tgt := 146) dX6_told_28 (by decide) (by decide) (by decide) rfl (by decide) ?_
        refine aw_aload_n dX6_told_146 rfl rfl ?_
        refine rr_getA dX6_told_147 flX6_63 rfl (by decide) ?_
        refine aw_iload_n dX6_told_150 rfl rfl ?_
        refine rr_iald (n := 30) dX6_told_151 rfl rfl rfl (by omega) (by omega) (fun _ => rfl) ?_
        refine aw_iret dX6_told_152 rfl (Nat.zero_le _) (Nat.zero_le _) ?_
        unfold opTold
        rw [if_neg (by omega)]
        rw [if_neg (by decide)]
        rw [if_neg (by decide)]
        rw [if_neg (by decide)]
        rw [if_neg (by decide)]
        rw [if_neg (by decide)]
        rw [if_pos rfl]
        exact ⟨rfl, rfl, rfl, rfl⟩
      · refine aw_iload_n dX6_told_27 rfl rfl ?_
        refine aw_tableIn (off := 125) (tgt := 153) dX6_told_28 (by decide) (by decide) (by decide) rfl (by decide) ?_
        refine aw_aload_n dX6_told_153 rfl rfl ?_
        refine aw_iload_n dX6_told_154 rfl rfl ?_
        refine aw_callV (c_X6_dues hB (by omega)) mv_X6_dues mlX6_168 dX6_told_155 rfl rfl (by decide) rfl (Nat.le_of_ble_eq_true rfl) rfl ?_
        rintro _ _ _ _ ⟨rfl, rfl, rfl, rfl⟩
        refine aw_iret dX6_told_158 rfl (Nat.zero_le _) (Nat.zero_le _) ?_
        unfold opTold
        rw [if_neg (by omega)]
        rw [if_neg (by decide)]
        rw [if_neg (by decide)]
        rw [if_neg (by decide)]
        rw [if_neg (by decide)]
        rw [if_neg (by decide)]
        rw [if_neg (by decide)]
        rw [if_pos rfl]
        exact ⟨rfl, rfl, rfl, rfl⟩
      · refine aw_iload_n dX6_told_27 rfl rfl ?_
        refine aw_tableIn (off := 131) (tgt := 159) dX6_told_28 (by decide) (by decide) (by decide) rfl (by decide) ?_
        refine aw_aload_n dX6_told_159 rfl rfl ?_
        refine rr_getA dX6_told_160 flX6_66 rfl (by decide) ?_
        refine aw_iload_n dX6_told_163 rfl rfl ?_
        refine rr_iald (n := 30) dX6_told_164 rfl rfl rfl (by omega) (by omega) (fun _ => rfl) ?_
        refine aw_iret dX6_told_165 rfl (Nat.zero_le _) (Nat.zero_le _) ?_
        unfold opTold
        rw [if_neg (by omega)]
        rw [if_neg (by decide)]
        rw [if_neg (by decide)]
        rw [if_neg (by decide)]
        rw [if_neg (by decide)]
        rw [if_neg (by decide)]
        rw [if_neg (by decide)]
        rw [if_neg (by decide)]
        rw [if_pos rfl]
        exact ⟨rfl, rfl, rfl, rfl⟩
      · refine aw_iload_n dX6_told_27 rfl rfl ?_
        refine aw_tableOut (tgt := 166) dX6_told_28 (by omega) (by omega) (by decide) ?_
        refine aw_aload_n dX6_told_166 rfl rfl ?_
        refine rr_getA dX6_told_167 flX6_69 rfl (by decide) ?_
        refine aw_iload_n dX6_told_170 rfl rfl ?_
        refine rr_iald (n := 30) dX6_told_171 rfl rfl rfl (by omega) (by omega) (fun _ => rfl) ?_
        refine aw_iret dX6_told_172 rfl (Nat.zero_le _) (Nat.zero_le _) ?_
        unfold opTold
        rw [if_neg (by omega)]
        rw [if_neg (by decide)]
        rw [if_neg (by decide)]
        rw [if_neg (by decide)]
        rw [if_neg (by decide)]
        rw [if_neg (by decide)]
        rw [if_neg (by decide)]
        rw [if_neg (by decide)]
        rw [if_neg (by decide)]
        exact ⟨rfl, rfl, rfl, rfl⟩
    · refine aw_if_ne (tgt := 27) dX6_told_21 (by decide) (by omega) (fun c_21 => absurd c_21 (by decide)) (fun _ => ?_)
      refine aw_bipush dX6_told_24 (by decide) ?_
      refine aw_iret dX6_told_26 rfl (Nat.zero_le _) (Nat.zero_le _) ?_
      have e : opTold S s w = -9 := by
        unfold opTold
        rw [if_pos (by omega)]
      rw [e]
      exact ⟨rfl, rfl, rfl, rfl⟩
  · refine aw_if_eq (tgt := 24) dX6_told_11 (by decide) (by omega) (fun _ => ?_) (fun c_11 => absurd c_11 (by decide))
    refine aw_bipush dX6_told_24 (by decide) ?_
    refine aw_iret dX6_told_26 rfl (Nat.zero_le _) (Nat.zero_le _) ?_
    have e : opTold S s w = -9 := by
      unfold opTold
      rw [if_pos (by omega)]
    rw [e]
    exact ⟨rfl, rfl, rfl, rfl⟩
set_option maxRecDepth 100000 in
set_option maxHeartbeats 4000000 in
theorem lp_X6_waited {s c : Int} (hs : 0 ≤ s ∧ s < 30) (hc : -1 ≤ c ∧ c ≤ 6) : ∀ (f n : Nat), n + f = 7 → AW l D cA A ad yX6_waited cX6_waited 5 (some .int) rm_X6_waited (PR (some (.inl (wsum S s c 7))) (S) sz) 0 0 lvR (VR S) sz 31 [some (.inr (some (50, 0))), some (.inl s), some (.inl c), some (.inl (wsum S s c n)), some (.inl (n : Int))] [] := by
  intro f
  induction f with
  | zero =>
    intro n hn
    refine aw_iload dX6_waited_31 rfl ?_
    refine aw_bipush dX6_waited_33 (by decide) ?_
    refine aw_icmp_ge (tgt := 73) dX6_waited_35 (by decide) (by omega) (by omega) (fun c_35 => ?_) (fun c_35 => absurd c_35 (by omega))
    refine aw_iload_n dX6_waited_73 rfl rfl ?_
    refine aw_iret dX6_waited_74 rfl (Nat.zero_le _) (Nat.zero_le _) ?_
    rw [show n = 7 by omega]
    exact ⟨rfl, rfl, rfl, rfl⟩
  | succ f ih =>
    intro n hn
    refine aw_iload dX6_waited_31 rfl ?_
    refine aw_bipush dX6_waited_33 (by decide) ?_
    refine aw_icmp_ge (tgt := 73) dX6_waited_35 (by decide) (by omega) (by omega) (fun c_35 => absurd c_35 (by omega)) (fun c_35 => ?_)
    refine aw_iload_n dX6_waited_38 rfl rfl ?_
    refine aw_iload_n dX6_waited_39 rfl rfl ?_
    refine aw_if_lt (tgt := 49) dX6_waited_40 (by decide) (by omega) (fun c_40 => ?_) (fun c_40 => ?_)
    · refine aw_aload_n dX6_waited_49 rfl rfl ?_
      refine rr_getA dX6_waited_50 flX6_72 rfl (by decide) ?_
      refine aw_bipush dX6_waited_53 (by decide) ?_
      refine aw_iload_n dX6_waited_55 rfl rfl ?_
      refine aw_imul dX6_waited_56 ?_
      refine aw_iload dX6_waited_57 rfl ?_
      refine aw_iadd dX6_waited_59 ?_
      refine rr_iald (n := 210) dX6_waited_60 rfl rfl rfl (by omega) (by omega) (fun _ => rfl) ?_
      refine aw_goto (tgt := 65) dX6_waited_61 (by decide) ?_
      refine aw_iadd dX6_waited_65 ?_
      refine aw_istore_n dX6_waited_66 rfl (by decide) ?_
      refine aw_iinc dX6_waited_67 rfl (by decide) ?_
      refine aw_goto (tgt := 31) dX6_waited_70 (by decide) ?_
      refine AW.lss (ih (n + 1) (by omega)) (And.intro rfl (And.intro rfl (And.intro rfl (And.intro (congrArg Sum.inl ?_) (And.intro rfl trivial)))))
      rw [wsum]
      first | rw [if_pos (by omega)] | rw [if_neg (by omega)]
    · refine aw_iload_n dX6_waited_43 rfl rfl ?_
      refine aw_iload dX6_waited_44 rfl ?_
      refine aw_icmp_ne (tgt := 64) dX6_waited_46 (by decide) (by omega) (by omega) (fun c_46 => ?_) (fun c_46 => ?_)
      · refine aw_iconst dX6_waited_64 ?_
        refine aw_iadd dX6_waited_65 ?_
        refine aw_istore_n dX6_waited_66 rfl (by decide) ?_
        refine aw_iinc dX6_waited_67 rfl (by decide) ?_
        refine aw_goto (tgt := 31) dX6_waited_70 (by decide) ?_
        refine AW.lss (ih (n + 1) (by omega)) (And.intro rfl (And.intro rfl (And.intro rfl (And.intro (congrArg Sum.inl ?_) (And.intro rfl trivial)))))
        rw [wsum]
        first | rw [if_pos (by omega)] | rw [if_neg (by omega)]
      · refine aw_aload_n dX6_waited_49 rfl rfl ?_
        refine rr_getA dX6_waited_50 flX6_72 rfl (by decide) ?_
        refine aw_bipush dX6_waited_53 (by decide) ?_
        refine aw_iload_n dX6_waited_55 rfl rfl ?_
        refine aw_imul dX6_waited_56 ?_
        refine aw_iload dX6_waited_57 rfl ?_
        refine aw_iadd dX6_waited_59 ?_
        refine rr_iald (n := 210) dX6_waited_60 rfl rfl rfl (by omega) (by omega) (fun _ => rfl) ?_
        refine aw_goto (tgt := 65) dX6_waited_61 (by decide) ?_
        refine aw_iadd dX6_waited_65 ?_
        refine aw_istore_n dX6_waited_66 rfl (by decide) ?_
        refine aw_iinc dX6_waited_67 rfl (by decide) ?_
        refine aw_goto (tgt := 31) dX6_waited_70 (by decide) ?_
        refine AW.lss (ih (n + 1) (by omega)) (And.intro rfl (And.intro rfl (And.intro rfl (And.intro (congrArg Sum.inl ?_) (And.intro rfl trivial)))))
        rw [wsum]
        first | rw [if_pos (by omega)] | rw [if_neg (by omega)]
set_option maxRecDepth 100000 in
set_option maxHeartbeats 4000000 in
theorem c_X6_waited {s c : Int} (hB : BB S) (hs : Rg s) (hc : Rg c) : CT l D cA A ad yX6_waited cX6_waited 5 (some .int) rm_X6_waited [.inr (some (50, 0)), .inl s, .inl c] lvR (VR S) sz (PR (some (.inl (opWaited S s c))) (S) sz) := by
  refine CT.of2 [some (.inr (some (50, 0))), some (.inl s), some (.inl c), none, none] (by decide) (Nat.le_of_ble_eq_true rfl) rfl ?_
  have hm := hB.m
  simp only [bsm] at hm
  refine aw_iload_n dX6_waited_0 rfl rfl ?_
  refine aw_iconst dX6_waited_1 ?_
  refine aw_aload_n dX6_waited_2 rfl rfl ?_
  refine rr_getS dX6_waited_3 flX6_119 rfl (by decide) (fun _ => rfl) ?_
  refine aw_iconst dX6_waited_6 ?_
  refine aw_isub dX6_waited_7 ?_
  refine aw_callS (c_X6_isIn (by omega) (by omega) (by omega)) mv_X6_isIn mlX6_108 dX6_waited_8 (by decide) rfl (Nat.le_of_ble_eq_true rfl) rfl ?_
  rintro _ _ _ _ ⟨⟨rfl, h1⟩ | ⟨rfl, h1⟩, rfl, rfl, rfl⟩
  · refine aw_if_eq (tgt := 24) dX6_waited_11 (by decide) (by omega) (fun c_11 => absurd c_11 (by decide)) (fun _ => ?_)
    refine aw_iload_n dX6_waited_14 rfl rfl ?_
    refine aw_iconst dX6_waited_15 ?_
    refine aw_bipush dX6_waited_16 (by decide) ?_
    refine aw_callS (c_X6_isIn (by omega) (by omega) (by omega)) mv_X6_isIn mlX6_108 dX6_waited_18 (by decide) rfl (Nat.le_of_ble_eq_true rfl) rfl ?_
    rintro _ _ _ _ ⟨⟨rfl, h2⟩ | ⟨rfl, h2⟩, rfl, rfl, rfl⟩
    · refine aw_if_ne (tgt := 26) dX6_waited_21 (by decide) (by omega) (fun _ => ?_) (fun c_21 => absurd c_21 (by decide))
      refine aw_iconst dX6_waited_26 ?_
      refine aw_istore_n dX6_waited_27 rfl (by decide) ?_
      refine aw_iconst dX6_waited_28 ?_
      refine aw_istore dX6_waited_29 (by decide) ?_
      have e : opWaited S s c = wsum S s c 7 := by
        unfold opWaited
        rw [if_neg (by omega)]
      rw [e]
      exact AW.lss (lp_X6_waited (by omega) (by omega) 7 0 (by omega)) (And.intro rfl (And.intro rfl (And.intro rfl (And.intro rfl (And.intro rfl trivial)))))
    · refine aw_if_ne (tgt := 26) dX6_waited_21 (by decide) (by omega) (fun c_21 => absurd c_21 (by decide)) (fun _ => ?_)
      refine aw_iconst dX6_waited_24 ?_
      refine aw_iret dX6_waited_25 rfl (Nat.zero_le _) (Nat.zero_le _) ?_
      have e : opWaited S s c = -1 := by
        unfold opWaited
        rw [if_pos (by omega)]
      rw [e]
      exact ⟨rfl, rfl, rfl, rfl⟩
  · refine aw_if_eq (tgt := 24) dX6_waited_11 (by decide) (by omega) (fun _ => ?_) (fun c_11 => absurd c_11 (by decide))
    refine aw_iconst dX6_waited_24 ?_
    refine aw_iret dX6_waited_25 rfl (Nat.zero_le _) (Nat.zero_le _) ?_
    have e : opWaited S s c = -1 := by
      unfold opWaited
      rw [if_pos (by omega)]
    rw [e]
    exact ⟨rfl, rfl, rfl, rfl⟩
set_option maxRecDepth 100000 in
set_option maxHeartbeats 4000000 in
theorem c_X6_line {w i : Int} (hB : BB S) (hw : Rg w) (hi : Rg i) : CT l D cA A ad yX6_line cX6_line 3 (some .int) rm_X6_line [.inr (some (50, 0)), .inl w, .inl i] lvR (VR S) sz (PR (some (.inl (opLine S w i))) (S) sz) := by
  refine CT.of2 [some (.inr (some (50, 0))), some (.inl w), some (.inl i)] (by decide) (Nat.le_of_ble_eq_true rfl) rfl ?_
  refine aw_iload_n dX6_line_0 rfl rfl ?_
  refine aw_iconst dX6_line_1 ?_
  refine aw_iconst dX6_line_2 ?_
  refine aw_callS (c_X6_isIn (by omega) (by omega) (by omega)) mv_X6_isIn mlX6_108 dX6_line_3 (by decide) rfl (Nat.le_of_ble_eq_true rfl) rfl ?_
  rintro _ _ _ _ ⟨⟨rfl, h1⟩ | ⟨rfl, h1⟩, rfl, rfl, rfl⟩
  · refine aw_if_eq (tgt := 13) dX6_line_6 (by decide) (by omega) (fun c_6 => absurd c_6 (by decide)) (fun _ => ?_)
    refine aw_iload_n dX6_line_9 rfl rfl ?_
    refine aw_if_ge (tgt := 15) dX6_line_10 (by decide) (by omega) (fun c_10 => ?_) (fun c_10 => ?_)
    · have hln := hB.ln (w := w) (by omega) (by omega)
      refine aw_iload_n dX6_line_15 rfl rfl ?_
      refine aw_aload_n dX6_line_16 rfl rfl ?_
      refine rr_getA dX6_line_17 flX6_93 rfl (by decide) ?_
      refine aw_iload_n dX6_line_20 rfl rfl ?_
      refine rr_iald (n := 2) dX6_line_21 rfl rfl rfl (by omega) (by omega) (fun _ => rfl) ?_
      refine aw_icmp_ge (tgt := 39) dX6_line_22 (by decide) (by omega) (by omega) (fun c_22 => ?_) (fun c_22 => ?_)
      · refine aw_bipush dX6_line_39 (by decide) ?_
        refine aw_iret dX6_line_41 rfl (Nat.zero_le _) (Nat.zero_le _) ?_
        unfold opLine
        rw [if_neg (by omega)]
        first | rw [if_pos (by omega)] | rw [if_neg (by omega)]
        exact ⟨rfl, rfl, rfl, rfl⟩
      · refine aw_aload_n dX6_line_25 rfl rfl ?_
        refine rr_getA dX6_line_26 flX6_96 rfl (by decide) ?_
        refine aw_bipush dX6_line_29 (by decide) ?_
        refine aw_iload_n dX6_line_31 rfl rfl ?_
        refine aw_imul dX6_line_32 ?_
        refine aw_iload_n dX6_line_33 rfl rfl ?_
        refine aw_iadd dX6_line_34 ?_
        refine rr_iald (n := 60) dX6_line_35 rfl rfl rfl (by omega) (by omega) (fun _ => rfl) ?_
        refine aw_goto (tgt := 41) dX6_line_36 (by decide) ?_
        refine aw_iret dX6_line_41 rfl (Nat.zero_le _) (Nat.zero_le _) ?_
        unfold opLine
        rw [if_neg (by omega)]
        first | rw [if_pos (by omega)] | rw [if_neg (by omega)]
        exact ⟨rfl, rfl, rfl, rfl⟩
    · refine aw_iconst dX6_line_13 ?_
      refine aw_iret dX6_line_14 rfl (Nat.zero_le _) (Nat.zero_le _) ?_
      unfold opLine
      rw [if_pos (by omega)]
      exact ⟨rfl, rfl, rfl, rfl⟩
  · refine aw_if_eq (tgt := 13) dX6_line_6 (by decide) (by omega) (fun _ => ?_) (fun c_6 => absurd c_6 (by decide))
    refine aw_iconst dX6_line_13 ?_
    refine aw_iret dX6_line_14 rfl (Nat.zero_le _) (Nat.zero_le _) ?_
    unfold opLine
    rw [if_pos (by omega)]
    exact ⟨rfl, rfl, rfl, rfl⟩
set_option maxRecDepth 100000 in
set_option maxHeartbeats 4000000 in
theorem c_X6_in {s w i : Int} (hB : BB S) (hs : Rg s) (hw : Rg w) (hi : Rg i) : CT l D cA A ad yX6_in cX6_in 4 (some .int) rm_X6_in [.inr (some (50, 0)), .inl s, .inl w, .inl i] lvR (VR S) sz (PR (some (.inl (opIn S s w i))) (S) sz) := by
  refine CT.of2 [some (.inr (some (50, 0))), some (.inl s), some (.inl w), some (.inl i)] (by decide) (Nat.le_of_ble_eq_true rfl) rfl ?_
  refine aw_iload_n dX6_in_0 rfl rfl ?_
  refine aw_iconst dX6_in_1 ?_
  refine aw_bipush dX6_in_2 (by decide) ?_
  refine aw_callS (c_X6_isIn (by omega) (by omega) (by omega)) mv_X6_isIn mlX6_108 dX6_in_4 (by decide) rfl (Nat.le_of_ble_eq_true rfl) rfl ?_
  rintro _ _ _ _ ⟨⟨rfl, h1⟩ | ⟨rfl, h1⟩, rfl, rfl, rfl⟩
  · refine aw_if_eq (tgt := 23) dX6_in_7 (by decide) (by omega) (fun c_7 => absurd c_7 (by decide)) (fun _ => ?_)
    refine aw_iload_n dX6_in_10 rfl rfl ?_
    refine aw_iconst dX6_in_11 ?_
    refine aw_iconst dX6_in_12 ?_
    refine aw_callS (c_X6_isIn (by omega) (by omega) (by omega)) mv_X6_isIn mlX6_108 dX6_in_13 (by decide) rfl (Nat.le_of_ble_eq_true rfl) rfl ?_
    rintro _ _ _ _ ⟨⟨rfl, h2⟩ | ⟨rfl, h2⟩, rfl, rfl, rfl⟩
    · refine aw_if_eq (tgt := 23) dX6_in_16 (by decide) (by omega) (fun c_16 => absurd c_16 (by decide)) (fun _ => ?_)
      refine aw_iload_n dX6_in_19 rfl rfl ?_
      refine aw_if_ge (tgt := 25) dX6_in_20 (by decide) (by omega) (fun c_20 => ?_) (fun c_20 => ?_)
      · have hln := hB.iM (a := 2 * s + w) (by omega) (by omega)
        refine aw_iload_n dX6_in_25 rfl rfl ?_
        refine aw_aload_n dX6_in_26 rfl rfl ?_
        refine rr_getA dX6_in_27 flX6_99 rfl (by decide) ?_
        refine aw_iconst dX6_in_30 ?_
        refine aw_iload_n dX6_in_31 rfl rfl ?_
        refine aw_imul dX6_in_32 ?_
        refine aw_iload_n dX6_in_33 rfl rfl ?_
        refine aw_iadd dX6_in_34 ?_
        refine rr_iald (n := 16) dX6_in_35 rfl rfl rfl (by omega) (by omega) (fun _ => rfl) ?_
        refine aw_icmp_ge (tgt := 57) dX6_in_36 (by decide) (by omega) (by omega) (fun c_36 => ?_) (fun c_36 => ?_)
        · refine aw_bipush dX6_in_57 (by decide) ?_
          refine aw_iret dX6_in_59 rfl (Nat.zero_le _) (Nat.zero_le _) ?_
          unfold opIn
          rw [if_neg (by omega)]
          first | rw [if_pos (by omega)] | rw [if_neg (by omega)]
          exact ⟨rfl, rfl, rfl, rfl⟩
        · refine aw_aload_n dX6_in_39 rfl rfl ?_
          refine rr_getA dX6_in_40 flX6_102 rfl (by decide) ?_
          refine aw_bipush dX6_in_43 (by decide) ?_
          refine aw_iconst dX6_in_45 ?_
          refine aw_iload_n dX6_in_46 rfl rfl ?_
          refine aw_imul dX6_in_47 ?_
          refine aw_iload_n dX6_in_48 rfl rfl ?_
          refine aw_iadd dX6_in_49 ?_
          refine aw_imul dX6_in_50 ?_
          refine aw_iload_n dX6_in_51 rfl rfl ?_
          refine aw_iadd dX6_in_52 ?_
          refine rr_iald (n := 480) dX6_in_53 rfl rfl rfl (by omega) (by omega) (fun _ => rfl) ?_
          refine aw_goto (tgt := 59) dX6_in_54 (by decide) ?_
          refine aw_iret dX6_in_59 rfl (Nat.zero_le _) (Nat.zero_le _) ?_
          unfold opIn
          rw [if_neg (by omega)]
          first | rw [if_pos (by omega)] | rw [if_neg (by omega)]
          exact ⟨rfl, rfl, rfl, rfl⟩
      · refine aw_iconst dX6_in_23 ?_
        refine aw_iret dX6_in_24 rfl (Nat.zero_le _) (Nat.zero_le _) ?_
        unfold opIn
        rw [if_pos (by omega)]
        exact ⟨rfl, rfl, rfl, rfl⟩
    · refine aw_if_eq (tgt := 23) dX6_in_16 (by decide) (by omega) (fun _ => ?_) (fun c_16 => absurd c_16 (by decide))
      refine aw_iconst dX6_in_23 ?_
      refine aw_iret dX6_in_24 rfl (Nat.zero_le _) (Nat.zero_le _) ?_
      unfold opIn
      rw [if_pos (by omega)]
      exact ⟨rfl, rfl, rfl, rfl⟩
  · refine aw_if_eq (tgt := 23) dX6_in_7 (by decide) (by omega) (fun _ => ?_) (fun c_7 => absurd c_7 (by decide))
    refine aw_iconst dX6_in_23 ?_
    refine aw_iret dX6_in_24 rfl (Nat.zero_le _) (Nat.zero_le _) ?_
    unfold opIn
    rw [if_pos (by omega)]
    exact ⟨rfl, rfl, rfl, rfl⟩
theorem sev1_bd (S : SS) (x : Int) : 0 ≤ sev1 S x ∧ sev1 S x ≤ 2 := by
  have h1 := b2i_01 (decide (0 < S 33 (2 * x)))
  have h2 := b2i_01 (decide (0 < S 33 (2 * x + 1)))
  simp only [sev1]
  omega
theorem sev_bd (S : SS) (n : Nat) : 0 ≤ sev S n ∧ sev S n ≤ 2 := by
  induction n with
  | zero => simp [sev]
  | succ n ih =>
    have := sev1_bd S n
    simp only [sev]
    split <;> omega
set_option maxRecDepth 100000 in
set_option maxHeartbeats 4000000 in
theorem lp_X6_several (hB : BB S) : ∀ (f n : Nat), n + f = 8 → AW l D cA A ad yX6_several cX6_several 4 (some .int) rm_X6_several (PR (some (.inl (sev S 8))) (S) sz) 0 0 lvR (VR S) sz 4 [some (.inr (some (50, 0))), some (.inl (sev S n)), some (.inl (n : Int)), none] [] := by
  intro f
  induction f with
  | zero =>
    intro n hn
    have hb := sev_bd S n
    refine aw_iload_n dX6_several_4 rfl rfl ?_
    refine aw_bipush dX6_several_5 (by decide) ?_
    refine aw_icmp_ge (tgt := 72) dX6_several_7 (by decide) (by omega) (by omega) (fun c_7 => ?_) (fun c_7 => absurd c_7 (by omega))
    refine aw_iload_n dX6_several_72 rfl rfl ?_
    refine aw_iret dX6_several_73 rfl (Nat.zero_le _) (Nat.zero_le _) ?_
    rw [show n = 8 by omega]
    exact ⟨rfl, rfl, rfl, rfl⟩
  | succ f ih =>
    intro n hn
    have hb := sev_bd S n
    have hb1 := sev1_bd S n
    have hsc := hB.sc (i := (n : Int)) (by omega) (by omega)
    simp only [bsc] at hsc
    have hi1 := hB.iM (a := 2 * (n : Int)) (by omega) (by omega)
    have hi2 := hB.iM (a := 2 * (n : Int) + 1) (by omega) (by omega)
    refine aw_iload_n dX6_several_4 rfl rfl ?_
    refine aw_bipush dX6_several_5 (by decide) ?_
    refine aw_icmp_ge (tgt := 72) dX6_several_7 (by decide) (by omega) (by omega) (fun c_7 => absurd c_7 (by omega)) (fun c_7 => ?_)
    refine aw_aload_n dX6_several_10 rfl rfl ?_
    refine rr_getA dX6_several_11 flX6_99 rfl (by decide) ?_
    refine aw_iconst dX6_several_14 ?_
    refine aw_iload_n dX6_several_15 rfl rfl ?_
    refine aw_imul dX6_several_16 ?_
    refine rr_iald (n := 16) dX6_several_17 rfl rfl rfl (by omega) (by omega) (fun _ => rfl) ?_
    refine aw_if_le (tgt := 25) dX6_several_18 (by decide) (by omega) (fun c_18 => ?_) (fun c_18 => ?_)
    · refine aw_iconst dX6_several_25 ?_
      refine aw_aload_n dX6_several_26 rfl rfl ?_
      refine rr_getA dX6_several_27 flX6_99 rfl (by decide) ?_
      refine aw_iconst dX6_several_30 ?_
      refine aw_iload_n dX6_several_31 rfl rfl ?_
      refine aw_imul dX6_several_32 ?_
      refine aw_iconst dX6_several_33 ?_
      refine aw_iadd dX6_several_34 ?_
      refine rr_iald (n := 16) dX6_several_35 rfl rfl rfl (by omega) (by omega) (fun _ => rfl) ?_
      refine aw_if_le (tgt := 43) dX6_several_36 (by decide) (by omega) (fun c_36 => ?_) (fun c_36 => ?_)
      · refine aw_iconst dX6_several_43 ?_
        refine aw_iadd dX6_several_44 ?_
        refine aw_istore_n dX6_several_45 rfl (by decide) ?_
        refine aw_aload_n dX6_several_46 rfl rfl ?_
        refine rr_getA dX6_several_47 flX6_20 rfl (by decide) ?_
        refine aw_iload_n dX6_several_50 rfl rfl ?_
        refine rr_zald (n := 8) dX6_several_51 rfl rfl rfl (by omega) (by omega) (fun _ => rfl) ?_
        refine aw_if_ne (tgt := 64) dX6_several_52 (by decide) (by omega) (fun c_52 => ?_) (fun c_52 => ?_)
        · refine aw_iload_n dX6_several_64 rfl rfl ?_
          refine aw_istore_n dX6_several_65 rfl (by decide) ?_
          refine aw_iinc dX6_several_66 rfl (by decide) ?_
          refine aw_goto (tgt := 4) dX6_several_69 (by decide) ?_
          first
          | (exfalso; omega)
          | (have es : sev1 S n = 1 + 1 := by (unfold sev1; rw [decide_eq_true (show 0 < S 33 (2 * (n : Int)) by omega), decide_eq_true (show 0 < S 33 (2 * (n : Int) + 1) by omega)]; rfl)
             refine AW.lss (ih (n + 1) (by omega)) (And.intro rfl (And.intro (congrArg Sum.inl ?_) (And.intro rfl trivial)))
             rw [sev, es]
             first | (rw [if_pos (by omega)]; done) | (rw [if_neg (by omega)]; done))
          | (have es : sev1 S n = 1 + 0 := by (unfold sev1; rw [decide_eq_true (show 0 < S 33 (2 * (n : Int)) by omega), decide_eq_false (show ¬ 0 < S 33 (2 * (n : Int) + 1) by omega)]; rfl)
             refine AW.lss (ih (n + 1) (by omega)) (And.intro rfl (And.intro (congrArg Sum.inl ?_) (And.intro rfl trivial)))
             rw [sev, es]
             first | (rw [if_pos (by omega)]; done) | (rw [if_neg (by omega)]; done))
          | (have es : sev1 S n = 0 + 1 := by (unfold sev1; rw [decide_eq_false (show ¬ 0 < S 33 (2 * (n : Int)) by omega), decide_eq_true (show 0 < S 33 (2 * (n : Int) + 1) by omega)]; rfl)
             refine AW.lss (ih (n + 1) (by omega)) (And.intro rfl (And.intro (congrArg Sum.inl ?_) (And.intro rfl trivial)))
             rw [sev, es]
             first | (rw [if_pos (by omega)]; done) | (rw [if_neg (by omega)]; done))
          | (have es : sev1 S n = 0 + 0 := by (unfold sev1; rw [decide_eq_false (show ¬ 0 < S 33 (2 * (n : Int)) by omega), decide_eq_false (show ¬ 0 < S 33 (2 * (n : Int) + 1) by omega)]; rfl)
             refine AW.lss (ih (n + 1) (by omega)) (And.intro rfl (And.intro (congrArg Sum.inl ?_) (And.intro rfl trivial)))
             rw [sev, es]
             first | (rw [if_pos (by omega)]; done) | (rw [if_neg (by omega)]; done))
        · refine aw_iload_n dX6_several_55 rfl rfl ?_
          refine aw_iload_n dX6_several_56 rfl rfl ?_
          refine aw_icmp_le (tgt := 64) dX6_several_57 (by decide) (by omega) (by omega) (fun c_57 => ?_) (fun c_57 => ?_)
          · refine aw_iload_n dX6_several_64 rfl rfl ?_
            refine aw_istore_n dX6_several_65 rfl (by decide) ?_
            refine aw_iinc dX6_several_66 rfl (by decide) ?_
            refine aw_goto (tgt := 4) dX6_several_69 (by decide) ?_
            first
            | (exfalso; omega)
            | (have es : sev1 S n = 1 + 1 := by (unfold sev1; rw [decide_eq_true (show 0 < S 33 (2 * (n : Int)) by omega), decide_eq_true (show 0 < S 33 (2 * (n : Int) + 1) by omega)]; rfl)
               refine AW.lss (ih (n + 1) (by omega)) (And.intro rfl (And.intro (congrArg Sum.inl ?_) (And.intro rfl trivial)))
               rw [sev, es]
               first | (rw [if_pos (by omega)]; done) | (rw [if_neg (by omega)]; done))
            | (have es : sev1 S n = 1 + 0 := by (unfold sev1; rw [decide_eq_true (show 0 < S 33 (2 * (n : Int)) by omega), decide_eq_false (show ¬ 0 < S 33 (2 * (n : Int) + 1) by omega)]; rfl)
               refine AW.lss (ih (n + 1) (by omega)) (And.intro rfl (And.intro (congrArg Sum.inl ?_) (And.intro rfl trivial)))
               rw [sev, es]
               first | (rw [if_pos (by omega)]; done) | (rw [if_neg (by omega)]; done))
            | (have es : sev1 S n = 0 + 1 := by (unfold sev1; rw [decide_eq_false (show ¬ 0 < S 33 (2 * (n : Int)) by omega), decide_eq_true (show 0 < S 33 (2 * (n : Int) + 1) by omega)]; rfl)
               refine AW.lss (ih (n + 1) (by omega)) (And.intro rfl (And.intro (congrArg Sum.inl ?_) (And.intro rfl trivial)))
               rw [sev, es]
               first | (rw [if_pos (by omega)]; done) | (rw [if_neg (by omega)]; done))
            | (have es : sev1 S n = 0 + 0 := by (unfold sev1; rw [decide_eq_false (show ¬ 0 < S 33 (2 * (n : Int)) by omega), decide_eq_false (show ¬ 0 < S 33 (2 * (n : Int) + 1) by omega)]; rfl)
               refine AW.lss (ih (n + 1) (by omega)) (And.intro rfl (And.intro (congrArg Sum.inl ?_) (And.intro rfl trivial)))
               rw [sev, es]
               first | (rw [if_pos (by omega)]; done) | (rw [if_neg (by omega)]; done))
          · refine aw_iload_n dX6_several_60 rfl rfl ?_
            refine aw_goto (tgt := 65) dX6_several_61 (by decide) ?_
            refine aw_istore_n dX6_several_65 rfl (by decide) ?_
            refine aw_iinc dX6_several_66 rfl (by decide) ?_
            refine aw_goto (tgt := 4) dX6_several_69 (by decide) ?_
            first
            | (exfalso; omega)
            | (have es : sev1 S n = 1 + 1 := by (unfold sev1; rw [decide_eq_true (show 0 < S 33 (2 * (n : Int)) by omega), decide_eq_true (show 0 < S 33 (2 * (n : Int) + 1) by omega)]; rfl)
               refine AW.lss (ih (n + 1) (by omega)) (And.intro rfl (And.intro (congrArg Sum.inl ?_) (And.intro rfl trivial)))
               rw [sev, es]
               first | (rw [if_pos (by omega)]; done) | (rw [if_neg (by omega)]; done))
            | (have es : sev1 S n = 1 + 0 := by (unfold sev1; rw [decide_eq_true (show 0 < S 33 (2 * (n : Int)) by omega), decide_eq_false (show ¬ 0 < S 33 (2 * (n : Int) + 1) by omega)]; rfl)
               refine AW.lss (ih (n + 1) (by omega)) (And.intro rfl (And.intro (congrArg Sum.inl ?_) (And.intro rfl trivial)))
               rw [sev, es]
               first | (rw [if_pos (by omega)]; done) | (rw [if_neg (by omega)]; done))
            | (have es : sev1 S n = 0 + 1 := by (unfold sev1; rw [decide_eq_false (show ¬ 0 < S 33 (2 * (n : Int)) by omega), decide_eq_true (show 0 < S 33 (2 * (n : Int) + 1) by omega)]; rfl)
               refine AW.lss (ih (n + 1) (by omega)) (And.intro rfl (And.intro (congrArg Sum.inl ?_) (And.intro rfl trivial)))
               rw [sev, es]
               first | (rw [if_pos (by omega)]; done) | (rw [if_neg (by omega)]; done))
            | (have es : sev1 S n = 0 + 0 := by (unfold sev1; rw [decide_eq_false (show ¬ 0 < S 33 (2 * (n : Int)) by omega), decide_eq_false (show ¬ 0 < S 33 (2 * (n : Int) + 1) by omega)]; rfl)
               refine AW.lss (ih (n + 1) (by omega)) (And.intro rfl (And.intro (congrArg Sum.inl ?_) (And.intro rfl trivial)))
               rw [sev, es]
               first | (rw [if_pos (by omega)]; done) | (rw [if_neg (by omega)]; done))
      · refine aw_iconst dX6_several_39 ?_
        refine aw_goto (tgt := 44) dX6_several_40 (by decide) ?_
        refine aw_iadd dX6_several_44 ?_
        refine aw_istore_n dX6_several_45 rfl (by decide) ?_
        refine aw_aload_n dX6_several_46 rfl rfl ?_
        refine rr_getA dX6_several_47 flX6_20 rfl (by decide) ?_
        refine aw_iload_n dX6_several_50 rfl rfl ?_
        refine rr_zald (n := 8) dX6_several_51 rfl rfl rfl (by omega) (by omega) (fun _ => rfl) ?_
        refine aw_if_ne (tgt := 64) dX6_several_52 (by decide) (by omega) (fun c_52 => ?_) (fun c_52 => ?_)
        · refine aw_iload_n dX6_several_64 rfl rfl ?_
          refine aw_istore_n dX6_several_65 rfl (by decide) ?_
          refine aw_iinc dX6_several_66 rfl (by decide) ?_
          refine aw_goto (tgt := 4) dX6_several_69 (by decide) ?_
          first
          | (exfalso; omega)
          | (have es : sev1 S n = 1 + 1 := by (unfold sev1; rw [decide_eq_true (show 0 < S 33 (2 * (n : Int)) by omega), decide_eq_true (show 0 < S 33 (2 * (n : Int) + 1) by omega)]; rfl)
             refine AW.lss (ih (n + 1) (by omega)) (And.intro rfl (And.intro (congrArg Sum.inl ?_) (And.intro rfl trivial)))
             rw [sev, es]
             first | (rw [if_pos (by omega)]; done) | (rw [if_neg (by omega)]; done))
          | (have es : sev1 S n = 1 + 0 := by (unfold sev1; rw [decide_eq_true (show 0 < S 33 (2 * (n : Int)) by omega), decide_eq_false (show ¬ 0 < S 33 (2 * (n : Int) + 1) by omega)]; rfl)
             refine AW.lss (ih (n + 1) (by omega)) (And.intro rfl (And.intro (congrArg Sum.inl ?_) (And.intro rfl trivial)))
             rw [sev, es]
             first | (rw [if_pos (by omega)]; done) | (rw [if_neg (by omega)]; done))
          | (have es : sev1 S n = 0 + 1 := by (unfold sev1; rw [decide_eq_false (show ¬ 0 < S 33 (2 * (n : Int)) by omega), decide_eq_true (show 0 < S 33 (2 * (n : Int) + 1) by omega)]; rfl)
             refine AW.lss (ih (n + 1) (by omega)) (And.intro rfl (And.intro (congrArg Sum.inl ?_) (And.intro rfl trivial)))
             rw [sev, es]
             first | (rw [if_pos (by omega)]; done) | (rw [if_neg (by omega)]; done))
          | (have es : sev1 S n = 0 + 0 := by (unfold sev1; rw [decide_eq_false (show ¬ 0 < S 33 (2 * (n : Int)) by omega), decide_eq_false (show ¬ 0 < S 33 (2 * (n : Int) + 1) by omega)]; rfl)
             refine AW.lss (ih (n + 1) (by omega)) (And.intro rfl (And.intro (congrArg Sum.inl ?_) (And.intro rfl trivial)))
             rw [sev, es]
             first | (rw [if_pos (by omega)]; done) | (rw [if_neg (by omega)]; done))
        · refine aw_iload_n dX6_several_55 rfl rfl ?_
          refine aw_iload_n dX6_several_56 rfl rfl ?_
          refine aw_icmp_le (tgt := 64) dX6_several_57 (by decide) (by omega) (by omega) (fun c_57 => ?_) (fun c_57 => ?_)
          · refine aw_iload_n dX6_several_64 rfl rfl ?_
            refine aw_istore_n dX6_several_65 rfl (by decide) ?_
            refine aw_iinc dX6_several_66 rfl (by decide) ?_
            refine aw_goto (tgt := 4) dX6_several_69 (by decide) ?_
            first
            | (exfalso; omega)
            | (have es : sev1 S n = 1 + 1 := by (unfold sev1; rw [decide_eq_true (show 0 < S 33 (2 * (n : Int)) by omega), decide_eq_true (show 0 < S 33 (2 * (n : Int) + 1) by omega)]; rfl)
               refine AW.lss (ih (n + 1) (by omega)) (And.intro rfl (And.intro (congrArg Sum.inl ?_) (And.intro rfl trivial)))
               rw [sev, es]
               first | (rw [if_pos (by omega)]; done) | (rw [if_neg (by omega)]; done))
            | (have es : sev1 S n = 1 + 0 := by (unfold sev1; rw [decide_eq_true (show 0 < S 33 (2 * (n : Int)) by omega), decide_eq_false (show ¬ 0 < S 33 (2 * (n : Int) + 1) by omega)]; rfl)
               refine AW.lss (ih (n + 1) (by omega)) (And.intro rfl (And.intro (congrArg Sum.inl ?_) (And.intro rfl trivial)))
               rw [sev, es]
               first | (rw [if_pos (by omega)]; done) | (rw [if_neg (by omega)]; done))
            | (have es : sev1 S n = 0 + 1 := by (unfold sev1; rw [decide_eq_false (show ¬ 0 < S 33 (2 * (n : Int)) by omega), decide_eq_true (show 0 < S 33 (2 * (n : Int) + 1) by omega)]; rfl)
               refine AW.lss (ih (n + 1) (by omega)) (And.intro rfl (And.intro (congrArg Sum.inl ?_) (And.intro rfl trivial)))
               rw [sev, es]
               first | (rw [if_pos (by omega)]; done) | (rw [if_neg (by omega)]; done))
            | (have es : sev1 S n = 0 + 0 := by (unfold sev1; rw [decide_eq_false (show ¬ 0 < S 33 (2 * (n : Int)) by omega), decide_eq_false (show ¬ 0 < S 33 (2 * (n : Int) + 1) by omega)]; rfl)
               refine AW.lss (ih (n + 1) (by omega)) (And.intro rfl (And.intro (congrArg Sum.inl ?_) (And.intro rfl trivial)))
               rw [sev, es]
               first | (rw [if_pos (by omega)]; done) | (rw [if_neg (by omega)]; done))
          · refine aw_iload_n dX6_several_60 rfl rfl ?_
            refine aw_goto (tgt := 65) dX6_several_61 (by decide) ?_
            refine aw_istore_n dX6_several_65 rfl (by decide) ?_
            refine aw_iinc dX6_several_66 rfl (by decide) ?_
            refine aw_goto (tgt := 4) dX6_several_69 (by decide) ?_
            first
            | (exfalso; omega)
            | (have es : sev1 S n = 1 + 1 := by (unfold sev1; rw [decide_eq_true (show 0 < S 33 (2 * (n : Int)) by omega), decide_eq_true (show 0 < S 33 (2 * (n : Int) + 1) by omega)]; rfl)
               refine AW.lss (ih (n + 1) (by omega)) (And.intro rfl (And.intro (congrArg Sum.inl ?_) (And.intro rfl trivial)))
               rw [sev, es]
               first | (rw [if_pos (by omega)]; done) | (rw [if_neg (by omega)]; done))
            | (have es : sev1 S n = 1 + 0 := by (unfold sev1; rw [decide_eq_true (show 0 < S 33 (2 * (n : Int)) by omega), decide_eq_false (show ¬ 0 < S 33 (2 * (n : Int) + 1) by omega)]; rfl)
               refine AW.lss (ih (n + 1) (by omega)) (And.intro rfl (And.intro (congrArg Sum.inl ?_) (And.intro rfl trivial)))
               rw [sev, es]
               first | (rw [if_pos (by omega)]; done) | (rw [if_neg (by omega)]; done))
            | (have es : sev1 S n = 0 + 1 := by (unfold sev1; rw [decide_eq_false (show ¬ 0 < S 33 (2 * (n : Int)) by omega), decide_eq_true (show 0 < S 33 (2 * (n : Int) + 1) by omega)]; rfl)
               refine AW.lss (ih (n + 1) (by omega)) (And.intro rfl (And.intro (congrArg Sum.inl ?_) (And.intro rfl trivial)))
               rw [sev, es]
               first | (rw [if_pos (by omega)]; done) | (rw [if_neg (by omega)]; done))
            | (have es : sev1 S n = 0 + 0 := by (unfold sev1; rw [decide_eq_false (show ¬ 0 < S 33 (2 * (n : Int)) by omega), decide_eq_false (show ¬ 0 < S 33 (2 * (n : Int) + 1) by omega)]; rfl)
               refine AW.lss (ih (n + 1) (by omega)) (And.intro rfl (And.intro (congrArg Sum.inl ?_) (And.intro rfl trivial)))
               rw [sev, es]
               first | (rw [if_pos (by omega)]; done) | (rw [if_neg (by omega)]; done))
    · refine aw_iconst dX6_several_21 ?_
      refine aw_goto (tgt := 26) dX6_several_22 (by decide) ?_
      refine aw_aload_n dX6_several_26 rfl rfl ?_
      refine rr_getA dX6_several_27 flX6_99 rfl (by decide) ?_
      refine aw_iconst dX6_several_30 ?_
      refine aw_iload_n dX6_several_31 rfl rfl ?_
      refine aw_imul dX6_several_32 ?_
      refine aw_iconst dX6_several_33 ?_
      refine aw_iadd dX6_several_34 ?_
      refine rr_iald (n := 16) dX6_several_35 rfl rfl rfl (by omega) (by omega) (fun _ => rfl) ?_
      refine aw_if_le (tgt := 43) dX6_several_36 (by decide) (by omega) (fun c_36 => ?_) (fun c_36 => ?_)
      · refine aw_iconst dX6_several_43 ?_
        refine aw_iadd dX6_several_44 ?_
        refine aw_istore_n dX6_several_45 rfl (by decide) ?_
        refine aw_aload_n dX6_several_46 rfl rfl ?_
        refine rr_getA dX6_several_47 flX6_20 rfl (by decide) ?_
        refine aw_iload_n dX6_several_50 rfl rfl ?_
        refine rr_zald (n := 8) dX6_several_51 rfl rfl rfl (by omega) (by omega) (fun _ => rfl) ?_
        refine aw_if_ne (tgt := 64) dX6_several_52 (by decide) (by omega) (fun c_52 => ?_) (fun c_52 => ?_)
        · refine aw_iload_n dX6_several_64 rfl rfl ?_
          refine aw_istore_n dX6_several_65 rfl (by decide) ?_
          refine aw_iinc dX6_several_66 rfl (by decide) ?_
          refine aw_goto (tgt := 4) dX6_several_69 (by decide) ?_
          first
          | (exfalso; omega)
          | (have es : sev1 S n = 1 + 1 := by (unfold sev1; rw [decide_eq_true (show 0 < S 33 (2 * (n : Int)) by omega), decide_eq_true (show 0 < S 33 (2 * (n : Int) + 1) by omega)]; rfl)
             refine AW.lss (ih (n + 1) (by omega)) (And.intro rfl (And.intro (congrArg Sum.inl ?_) (And.intro rfl trivial)))
             rw [sev, es]
             first | (rw [if_pos (by omega)]; done) | (rw [if_neg (by omega)]; done))
          | (have es : sev1 S n = 1 + 0 := by (unfold sev1; rw [decide_eq_true (show 0 < S 33 (2 * (n : Int)) by omega), decide_eq_false (show ¬ 0 < S 33 (2 * (n : Int) + 1) by omega)]; rfl)
             refine AW.lss (ih (n + 1) (by omega)) (And.intro rfl (And.intro (congrArg Sum.inl ?_) (And.intro rfl trivial)))
             rw [sev, es]
             first | (rw [if_pos (by omega)]; done) | (rw [if_neg (by omega)]; done))
          | (have es : sev1 S n = 0 + 1 := by (unfold sev1; rw [decide_eq_false (show ¬ 0 < S 33 (2 * (n : Int)) by omega), decide_eq_true (show 0 < S 33 (2 * (n : Int) + 1) by omega)]; rfl)
             refine AW.lss (ih (n + 1) (by omega)) (And.intro rfl (And.intro (congrArg Sum.inl ?_) (And.intro rfl trivial)))
             rw [sev, es]
             first | (rw [if_pos (by omega)]; done) | (rw [if_neg (by omega)]; done))
          | (have es : sev1 S n = 0 + 0 := by (unfold sev1; rw [decide_eq_false (show ¬ 0 < S 33 (2 * (n : Int)) by omega), decide_eq_false (show ¬ 0 < S 33 (2 * (n : Int) + 1) by omega)]; rfl)
             refine AW.lss (ih (n + 1) (by omega)) (And.intro rfl (And.intro (congrArg Sum.inl ?_) (And.intro rfl trivial)))
             rw [sev, es]
             first | (rw [if_pos (by omega)]; done) | (rw [if_neg (by omega)]; done))
        · refine aw_iload_n dX6_several_55 rfl rfl ?_
          refine aw_iload_n dX6_several_56 rfl rfl ?_
          refine aw_icmp_le (tgt := 64) dX6_several_57 (by decide) (by omega) (by omega) (fun c_57 => ?_) (fun c_57 => ?_)
          · refine aw_iload_n dX6_several_64 rfl rfl ?_
            refine aw_istore_n dX6_several_65 rfl (by decide) ?_
            refine aw_iinc dX6_several_66 rfl (by decide) ?_
            refine aw_goto (tgt := 4) dX6_several_69 (by decide) ?_
            first
            | (exfalso; omega)
            | (have es : sev1 S n = 1 + 1 := by (unfold sev1; rw [decide_eq_true (show 0 < S 33 (2 * (n : Int)) by omega), decide_eq_true (show 0 < S 33 (2 * (n : Int) + 1) by omega)]; rfl)
               refine AW.lss (ih (n + 1) (by omega)) (And.intro rfl (And.intro (congrArg Sum.inl ?_) (And.intro rfl trivial)))
               rw [sev, es]
               first | (rw [if_pos (by omega)]; done) | (rw [if_neg (by omega)]; done))
            | (have es : sev1 S n = 1 + 0 := by (unfold sev1; rw [decide_eq_true (show 0 < S 33 (2 * (n : Int)) by omega), decide_eq_false (show ¬ 0 < S 33 (2 * (n : Int) + 1) by omega)]; rfl)
               refine AW.lss (ih (n + 1) (by omega)) (And.intro rfl (And.intro (congrArg Sum.inl ?_) (And.intro rfl trivial)))
               rw [sev, es]
               first | (rw [if_pos (by omega)]; done) | (rw [if_neg (by omega)]; done))
            | (have es : sev1 S n = 0 + 1 := by (unfold sev1; rw [decide_eq_false (show ¬ 0 < S 33 (2 * (n : Int)) by omega), decide_eq_true (show 0 < S 33 (2 * (n : Int) + 1) by omega)]; rfl)
               refine AW.lss (ih (n + 1) (by omega)) (And.intro rfl (And.intro (congrArg Sum.inl ?_) (And.intro rfl trivial)))
               rw [sev, es]
               first | (rw [if_pos (by omega)]; done) | (rw [if_neg (by omega)]; done))
            | (have es : sev1 S n = 0 + 0 := by (unfold sev1; rw [decide_eq_false (show ¬ 0 < S 33 (2 * (n : Int)) by omega), decide_eq_false (show ¬ 0 < S 33 (2 * (n : Int) + 1) by omega)]; rfl)
               refine AW.lss (ih (n + 1) (by omega)) (And.intro rfl (And.intro (congrArg Sum.inl ?_) (And.intro rfl trivial)))
               rw [sev, es]
               first | (rw [if_pos (by omega)]; done) | (rw [if_neg (by omega)]; done))
          · refine aw_iload_n dX6_several_60 rfl rfl ?_
            refine aw_goto (tgt := 65) dX6_several_61 (by decide) ?_
            refine aw_istore_n dX6_several_65 rfl (by decide) ?_
            refine aw_iinc dX6_several_66 rfl (by decide) ?_
            refine aw_goto (tgt := 4) dX6_several_69 (by decide) ?_
            first
            | (exfalso; omega)
            | (have es : sev1 S n = 1 + 1 := by (unfold sev1; rw [decide_eq_true (show 0 < S 33 (2 * (n : Int)) by omega), decide_eq_true (show 0 < S 33 (2 * (n : Int) + 1) by omega)]; rfl)
               refine AW.lss (ih (n + 1) (by omega)) (And.intro rfl (And.intro (congrArg Sum.inl ?_) (And.intro rfl trivial)))
               rw [sev, es]
               first | (rw [if_pos (by omega)]; done) | (rw [if_neg (by omega)]; done))
            | (have es : sev1 S n = 1 + 0 := by (unfold sev1; rw [decide_eq_true (show 0 < S 33 (2 * (n : Int)) by omega), decide_eq_false (show ¬ 0 < S 33 (2 * (n : Int) + 1) by omega)]; rfl)
               refine AW.lss (ih (n + 1) (by omega)) (And.intro rfl (And.intro (congrArg Sum.inl ?_) (And.intro rfl trivial)))
               rw [sev, es]
               first | (rw [if_pos (by omega)]; done) | (rw [if_neg (by omega)]; done))
            | (have es : sev1 S n = 0 + 1 := by (unfold sev1; rw [decide_eq_false (show ¬ 0 < S 33 (2 * (n : Int)) by omega), decide_eq_true (show 0 < S 33 (2 * (n : Int) + 1) by omega)]; rfl)
               refine AW.lss (ih (n + 1) (by omega)) (And.intro rfl (And.intro (congrArg Sum.inl ?_) (And.intro rfl trivial)))
               rw [sev, es]
               first | (rw [if_pos (by omega)]; done) | (rw [if_neg (by omega)]; done))
            | (have es : sev1 S n = 0 + 0 := by (unfold sev1; rw [decide_eq_false (show ¬ 0 < S 33 (2 * (n : Int)) by omega), decide_eq_false (show ¬ 0 < S 33 (2 * (n : Int) + 1) by omega)]; rfl)
               refine AW.lss (ih (n + 1) (by omega)) (And.intro rfl (And.intro (congrArg Sum.inl ?_) (And.intro rfl trivial)))
               rw [sev, es]
               first | (rw [if_pos (by omega)]; done) | (rw [if_neg (by omega)]; done))
      · refine aw_iconst dX6_several_39 ?_
        refine aw_goto (tgt := 44) dX6_several_40 (by decide) ?_
        refine aw_iadd dX6_several_44 ?_
        refine aw_istore_n dX6_several_45 rfl (by decide) ?_
        refine aw_aload_n dX6_several_46 rfl rfl ?_
        refine rr_getA dX6_several_47 flX6_20 rfl (by decide) ?_
        refine aw_iload_n dX6_several_50 rfl rfl ?_
        refine rr_zald (n := 8) dX6_several_51 rfl rfl rfl (by omega) (by omega) (fun _ => rfl) ?_
        refine aw_if_ne (tgt := 64) dX6_several_52 (by decide) (by omega) (fun c_52 => ?_) (fun c_52 => ?_)
        · refine aw_iload_n dX6_several_64 rfl rfl ?_
          refine aw_istore_n dX6_several_65 rfl (by decide) ?_
          refine aw_iinc dX6_several_66 rfl (by decide) ?_
          refine aw_goto (tgt := 4) dX6_several_69 (by decide) ?_
          first
          | (exfalso; omega)
          | (have es : sev1 S n = 1 + 1 := by (unfold sev1; rw [decide_eq_true (show 0 < S 33 (2 * (n : Int)) by omega), decide_eq_true (show 0 < S 33 (2 * (n : Int) + 1) by omega)]; rfl)
             refine AW.lss (ih (n + 1) (by omega)) (And.intro rfl (And.intro (congrArg Sum.inl ?_) (And.intro rfl trivial)))
             rw [sev, es]
             first | (rw [if_pos (by omega)]; done) | (rw [if_neg (by omega)]; done))
          | (have es : sev1 S n = 1 + 0 := by (unfold sev1; rw [decide_eq_true (show 0 < S 33 (2 * (n : Int)) by omega), decide_eq_false (show ¬ 0 < S 33 (2 * (n : Int) + 1) by omega)]; rfl)
             refine AW.lss (ih (n + 1) (by omega)) (And.intro rfl (And.intro (congrArg Sum.inl ?_) (And.intro rfl trivial)))
             rw [sev, es]
             first | (rw [if_pos (by omega)]; done) | (rw [if_neg (by omega)]; done))
          | (have es : sev1 S n = 0 + 1 := by (unfold sev1; rw [decide_eq_false (show ¬ 0 < S 33 (2 * (n : Int)) by omega), decide_eq_true (show 0 < S 33 (2 * (n : Int) + 1) by omega)]; rfl)
             refine AW.lss (ih (n + 1) (by omega)) (And.intro rfl (And.intro (congrArg Sum.inl ?_) (And.intro rfl trivial)))
             rw [sev, es]
             first | (rw [if_pos (by omega)]; done) | (rw [if_neg (by omega)]; done))
          | (have es : sev1 S n = 0 + 0 := by (unfold sev1; rw [decide_eq_false (show ¬ 0 < S 33 (2 * (n : Int)) by omega), decide_eq_false (show ¬ 0 < S 33 (2 * (n : Int) + 1) by omega)]; rfl)
             refine AW.lss (ih (n + 1) (by omega)) (And.intro rfl (And.intro (congrArg Sum.inl ?_) (And.intro rfl trivial)))
             rw [sev, es]
             first | (rw [if_pos (by omega)]; done) | (rw [if_neg (by omega)]; done))
        · refine aw_iload_n dX6_several_55 rfl rfl ?_
          refine aw_iload_n dX6_several_56 rfl rfl ?_
          refine aw_icmp_le (tgt := 64) dX6_several_57 (by decide) (by omega) (by omega) (fun c_57 => ?_) (fun c_57 => ?_)
          · refine aw_iload_n dX6_several_64 rfl rfl ?_
            refine aw_istore_n dX6_several_65 rfl (by decide) ?_
            refine aw_iinc dX6_several_66 rfl (by decide) ?_
            refine aw_goto (tgt := 4) dX6_several_69 (by decide) ?_
            first
            | (exfalso; omega)
            | (have es : sev1 S n = 1 + 1 := by (unfold sev1; rw [decide_eq_true (show 0 < S 33 (2 * (n : Int)) by omega), decide_eq_true (show 0 < S 33 (2 * (n : Int) + 1) by omega)]; rfl)
               refine AW.lss (ih (n + 1) (by omega)) (And.intro rfl (And.intro (congrArg Sum.inl ?_) (And.intro rfl trivial)))
               rw [sev, es]
               first | (rw [if_pos (by omega)]; done) | (rw [if_neg (by omega)]; done))
            | (have es : sev1 S n = 1 + 0 := by (unfold sev1; rw [decide_eq_true (show 0 < S 33 (2 * (n : Int)) by omega), decide_eq_false (show ¬ 0 < S 33 (2 * (n : Int) + 1) by omega)]; rfl)
               refine AW.lss (ih (n + 1) (by omega)) (And.intro rfl (And.intro (congrArg Sum.inl ?_) (And.intro rfl trivial)))
               rw [sev, es]
               first | (rw [if_pos (by omega)]; done) | (rw [if_neg (by omega)]; done))
            | (have es : sev1 S n = 0 + 1 := by (unfold sev1; rw [decide_eq_false (show ¬ 0 < S 33 (2 * (n : Int)) by omega), decide_eq_true (show 0 < S 33 (2 * (n : Int) + 1) by omega)]; rfl)
               refine AW.lss (ih (n + 1) (by omega)) (And.intro rfl (And.intro (congrArg Sum.inl ?_) (And.intro rfl trivial)))
               rw [sev, es]
               first | (rw [if_pos (by omega)]; done) | (rw [if_neg (by omega)]; done))
            | (have es : sev1 S n = 0 + 0 := by (unfold sev1; rw [decide_eq_false (show ¬ 0 < S 33 (2 * (n : Int)) by omega), decide_eq_false (show ¬ 0 < S 33 (2 * (n : Int) + 1) by omega)]; rfl)
               refine AW.lss (ih (n + 1) (by omega)) (And.intro rfl (And.intro (congrArg Sum.inl ?_) (And.intro rfl trivial)))
               rw [sev, es]
               first | (rw [if_pos (by omega)]; done) | (rw [if_neg (by omega)]; done))
          · refine aw_iload_n dX6_several_60 rfl rfl ?_
            refine aw_goto (tgt := 65) dX6_several_61 (by decide) ?_
            refine aw_istore_n dX6_several_65 rfl (by decide) ?_
            refine aw_iinc dX6_several_66 rfl (by decide) ?_
            refine aw_goto (tgt := 4) dX6_several_69 (by decide) ?_
            first
            | (exfalso; omega)
            | (have es : sev1 S n = 1 + 1 := by (unfold sev1; rw [decide_eq_true (show 0 < S 33 (2 * (n : Int)) by omega), decide_eq_true (show 0 < S 33 (2 * (n : Int) + 1) by omega)]; rfl)
               refine AW.lss (ih (n + 1) (by omega)) (And.intro rfl (And.intro (congrArg Sum.inl ?_) (And.intro rfl trivial)))
               rw [sev, es]
               first | (rw [if_pos (by omega)]; done) | (rw [if_neg (by omega)]; done))
            | (have es : sev1 S n = 1 + 0 := by (unfold sev1; rw [decide_eq_true (show 0 < S 33 (2 * (n : Int)) by omega), decide_eq_false (show ¬ 0 < S 33 (2 * (n : Int) + 1) by omega)]; rfl)
               refine AW.lss (ih (n + 1) (by omega)) (And.intro rfl (And.intro (congrArg Sum.inl ?_) (And.intro rfl trivial)))
               rw [sev, es]
               first | (rw [if_pos (by omega)]; done) | (rw [if_neg (by omega)]; done))
            | (have es : sev1 S n = 0 + 1 := by (unfold sev1; rw [decide_eq_false (show ¬ 0 < S 33 (2 * (n : Int)) by omega), decide_eq_true (show 0 < S 33 (2 * (n : Int) + 1) by omega)]; rfl)
               refine AW.lss (ih (n + 1) (by omega)) (And.intro rfl (And.intro (congrArg Sum.inl ?_) (And.intro rfl trivial)))
               rw [sev, es]
               first | (rw [if_pos (by omega)]; done) | (rw [if_neg (by omega)]; done))
            | (have es : sev1 S n = 0 + 0 := by (unfold sev1; rw [decide_eq_false (show ¬ 0 < S 33 (2 * (n : Int)) by omega), decide_eq_false (show ¬ 0 < S 33 (2 * (n : Int) + 1) by omega)]; rfl)
               refine AW.lss (ih (n + 1) (by omega)) (And.intro rfl (And.intro (congrArg Sum.inl ?_) (And.intro rfl trivial)))
               rw [sev, es]
               first | (rw [if_pos (by omega)]; done) | (rw [if_neg (by omega)]; done))
set_option maxRecDepth 100000 in
set_option maxHeartbeats 4000000 in
theorem c_X6_several (hB : BB S) : CT l D cA A ad yX6_several cX6_several 4 (some .int) rm_X6_several [.inr (some (50, 0))] lvR (VR S) sz (PR (some (.inl (sev S 8))) (S) sz) := by
  refine CT.of2 [some (.inr (some (50, 0))), none, none, none] (by decide) (Nat.le_of_ble_eq_true rfl) rfl ?_
  refine aw_iconst dX6_several_0 ?_
  refine aw_istore_n dX6_several_1 rfl (by decide) ?_
  refine aw_iconst dX6_several_2 ?_
  refine aw_istore_n dX6_several_3 rfl (by decide) ?_
  exact AW.lss (lp_X6_several hB 8 0 (by omega)) (And.intro rfl (And.intro rfl (And.intro rfl trivial)))
set_option maxRecDepth 100000 in
set_option maxHeartbeats 4000000 in
theorem t_X6_count {w : Int} (hB : BB S) (hw : Rg w) {n : Nat} (hn : n = (S 8 0).toNat) : AW l D cA A ad yX6_count cX6_count 7 (some .int) rm_X6_count (PR (some (.inl (opCnt S w))) (S) sz) 0 0 lvR (VR S) sz 118 [some (.inr (some (50, 0))), some (.inl w), some (.inl (cnt (pOut S) n)), some (.inl (cnt (pLeft S) n)), some (.inl (cnt (pLate S) n)), some (.inl (cnt (pIn S) n)), some (.inl (n : Int))] [] := by
  subst hn
  rcases (show w = 0 ∨ w = 1 ∨ w = 2 ∨ w = 3 ∨ w = 4 ∨ w = 5 ∨ w = 6 ∨ w = 7 ∨ (w < 0 ∨ 7 < w) by omega) with rfl | rfl | rfl | rfl | rfl | rfl | rfl | rfl | hw2
  · refine aw_iload_n dX6_count_118 rfl rfl ?_
    refine aw_tableIn (off := 45) (tgt := 164) dX6_count_119 (by decide) (by decide) (by decide) rfl (by decide) ?_
    refine aw_aload_n dX6_count_164 rfl rfl ?_
    refine rr_getS dX6_count_165 flX6_119 rfl (by decide) (fun _ => rfl) ?_
    refine aw_iret dX6_count_168 rfl (Nat.zero_le _) (Nat.zero_le _) ?_
    unfold opCnt
    rw [if_pos rfl]
    exact ⟨rfl, rfl, rfl, rfl⟩
  · refine aw_iload_n dX6_count_118 rfl rfl ?_
    refine aw_tableIn (off := 50) (tgt := 169) dX6_count_119 (by decide) (by decide) (by decide) rfl (by decide) ?_
    refine aw_aload_n dX6_count_169 rfl rfl ?_
    refine rr_getS dX6_count_170 flX6_122 rfl (by decide) (fun _ => rfl) ?_
    refine aw_iret dX6_count_173 rfl (Nat.zero_le _) (Nat.zero_le _) ?_
    unfold opCnt
    rw [if_neg (by decide)]
    rw [if_pos rfl]
    exact ⟨rfl, rfl, rfl, rfl⟩
  · refine aw_iload_n dX6_count_118 rfl rfl ?_
    refine aw_tableIn (off := 55) (tgt := 174) dX6_count_119 (by decide) (by decide) (by decide) rfl (by decide) ?_
    refine aw_aload_n dX6_count_174 rfl rfl ?_
    refine rr_getS dX6_count_175 flX6_112 rfl (by decide) (fun _ => rfl) ?_
    refine aw_iret dX6_count_178 rfl (Nat.zero_le _) (Nat.zero_le _) ?_
    unfold opCnt
    rw [if_neg (by decide)]
    rw [if_neg (by decide)]
    rw [if_pos rfl]
    exact ⟨rfl, rfl, rfl, rfl⟩
  · refine aw_iload_n dX6_count_118 rfl rfl ?_
    refine aw_tableIn (off := 60) (tgt := 179) dX6_count_119 (by decide) (by decide) (by decide) rfl (by decide) ?_
    refine aw_iload_n dX6_count_179 rfl rfl ?_
    refine aw_iret dX6_count_180 rfl (Nat.zero_le _) (Nat.zero_le _) ?_
    unfold opCnt
    rw [if_neg (by decide)]
    rw [if_neg (by decide)]
    rw [if_neg (by decide)]
    rw [if_pos rfl]
    exact ⟨rfl, rfl, rfl, rfl⟩
  · refine aw_iload_n dX6_count_118 rfl rfl ?_
    refine aw_tableIn (off := 62) (tgt := 181) dX6_count_119 (by decide) (by decide) (by decide) rfl (by decide) ?_
    refine aw_iload_n dX6_count_181 rfl rfl ?_
    refine aw_iret dX6_count_182 rfl (Nat.zero_le _) (Nat.zero_le _) ?_
    unfold opCnt
    rw [if_neg (by decide)]
    rw [if_neg (by decide)]
    rw [if_neg (by decide)]
    rw [if_neg (by decide)]
    rw [if_pos rfl]
    exact ⟨rfl, rfl, rfl, rfl⟩
  · refine aw_iload_n dX6_count_118 rfl rfl ?_
    refine aw_tableIn (off := 64) (tgt := 183) dX6_count_119 (by decide) (by decide) (by decide) rfl (by decide) ?_
    refine aw_iload dX6_count_183 rfl ?_
    refine aw_iret dX6_count_185 rfl (Nat.zero_le _) (Nat.zero_le _) ?_
    unfold opCnt
    rw [if_neg (by decide)]
    rw [if_neg (by decide)]
    rw [if_neg (by decide)]
    rw [if_neg (by decide)]
    rw [if_neg (by decide)]
    rw [if_pos rfl]
    exact ⟨rfl, rfl, rfl, rfl⟩
  · refine aw_iload_n dX6_count_118 rfl rfl ?_
    refine aw_tableIn (off := 67) (tgt := 186) dX6_count_119 (by decide) (by decide) (by decide) rfl (by decide) ?_
    refine aw_iload dX6_count_186 rfl ?_
    refine aw_iret dX6_count_188 rfl (Nat.zero_le _) (Nat.zero_le _) ?_
    unfold opCnt
    rw [if_neg (by decide)]
    rw [if_neg (by decide)]
    rw [if_neg (by decide)]
    rw [if_neg (by decide)]
    rw [if_neg (by decide)]
    rw [if_neg (by decide)]
    rw [if_pos rfl]
    exact ⟨rfl, rfl, rfl, rfl⟩
  · refine aw_iload_n dX6_count_118 rfl rfl ?_
    refine aw_tableIn (off := 70) (tgt := 189) dX6_count_119 (by decide) (by decide) (by decide) rfl (by decide) ?_
    refine aw_aload_n dX6_count_189 rfl rfl ?_
    refine aw_callV (c_X6_several hB) mv_X6_several mlX6_171 dX6_count_190 rfl rfl (by decide) rfl (Nat.le_of_ble_eq_true rfl) rfl ?_
    rintro _ _ _ _ ⟨rfl, rfl, rfl, rfl⟩
    refine aw_iret dX6_count_193 rfl (Nat.zero_le _) (Nat.zero_le _) ?_
    unfold opCnt
    rw [if_neg (by decide)]
    rw [if_neg (by decide)]
    rw [if_neg (by decide)]
    rw [if_neg (by decide)]
    rw [if_neg (by decide)]
    rw [if_neg (by decide)]
    rw [if_neg (by decide)]
    rw [if_pos rfl]
    exact ⟨rfl, rfl, rfl, rfl⟩
  · refine aw_iload_n dX6_count_118 rfl rfl ?_
    refine aw_tableOut (tgt := 194) dX6_count_119 (by omega) (by omega) (by decide) ?_
    refine aw_iconst dX6_count_194 ?_
    refine aw_iret dX6_count_195 rfl (Nat.zero_le _) (Nat.zero_le _) ?_
    unfold opCnt
    rw [if_neg (by omega)]
    rw [if_neg (by omega)]
    rw [if_neg (by omega)]
    rw [if_neg (by omega)]
    rw [if_neg (by omega)]
    rw [if_neg (by omega)]
    rw [if_neg (by omega)]
    rw [if_neg (by omega)]
    exact ⟨rfl, rfl, rfl, rfl⟩
set_option maxRecDepth 100000 in
set_option maxHeartbeats 4000000 in
theorem lp_X6_count {w : Int} (hB : BB S) (hw : Rg w) : ∀ (f n : Nat), n + f = (S 8 0).toNat → AW l D cA A ad yX6_count cX6_count 7 (some .int) rm_X6_count (PR (some (.inl (opCnt S w))) (S) sz) 0 0 lvR (VR S) sz 13 [some (.inr (some (50, 0))), some (.inl w), some (.inl (cnt (pOut S) n)), some (.inl (cnt (pLeft S) n)), some (.inl (cnt (pLate S) n)), some (.inl (cnt (pIn S) n)), some (.inl (n : Int))] [] := by
  have hm := hB.m
  simp only [bsm] at hm
  intro f
  induction f with
  | zero =>
    intro n hn
    refine aw_iload dX6_count_13 rfl ?_
    refine aw_aload_n dX6_count_15 rfl rfl ?_
    refine rr_getS dX6_count_16 flX6_119 rfl (by decide) (fun _ => rfl) ?_
    refine aw_icmp_ge (tgt := 118) dX6_count_19 (by decide) (by omega) (by omega) (fun c_19 => ?_) (fun c_19 => absurd c_19 (by omega))
    exact t_X6_count hB hw (by omega)
  | succ f ih =>
    intro n hn
    have hsh := hB.sh (s := (n : Int)) (by omega) (by omega)
    simp only [bsh] at hsh
    refine aw_iload dX6_count_13 rfl ?_
    refine aw_aload_n dX6_count_15 rfl rfl ?_
    refine rr_getS dX6_count_16 flX6_119 rfl (by decide) (fun _ => rfl) ?_
    refine aw_icmp_ge (tgt := 118) dX6_count_19 (by decide) (by omega) (by omega) (fun c_19 => absurd c_19 (by omega)) (fun c_19 => ?_)
    refine aw_iload_n dX6_count_22 rfl rfl ?_
    refine aw_aload_n dX6_count_23 rfl rfl ?_
    refine rr_getA dX6_count_24 flX6_48 rfl (by decide) ?_
    refine aw_iload dX6_count_27 rfl ?_
    refine rr_iald (n := 30) dX6_count_29 rfl rfl rfl (by omega) (by omega) (fun _ => rfl) ?_
    refine aw_bipush dX6_count_30 (by decide) ?_
    refine aw_icmp_ne (tgt := 39) dX6_count_32 (by decide) (by omega) (by omega) (fun c_32 => ?_) (fun c_32 => ?_)
    · refine aw_iconst dX6_count_39 ?_
      refine aw_iadd dX6_count_40 ?_
      refine aw_istore_n dX6_count_41 rfl (by decide) ?_
      refine aw_iload_n dX6_count_42 rfl rfl ?_
      refine aw_aload_n dX6_count_43 rfl rfl ?_
      refine rr_getA dX6_count_44 flX6_57 rfl (by decide) ?_
      refine aw_iload dX6_count_47 rfl ?_
      refine rr_zald (n := 30) dX6_count_49 rfl rfl rfl (by omega) (by omega) (fun _ => rfl) ?_
      refine aw_if_eq (tgt := 57) dX6_count_50 (by decide) (by omega) (fun c_50 => ?_) (fun c_50 => ?_)
      · refine aw_iconst dX6_count_57 ?_
        refine aw_iadd dX6_count_58 ?_
        refine aw_istore_n dX6_count_59 rfl (by decide) ?_
        refine aw_iload dX6_count_60 rfl ?_
        refine aw_aload_n dX6_count_62 rfl rfl ?_
        refine rr_getA dX6_count_63 flX6_54 rfl (by decide) ?_
        refine aw_iload dX6_count_66 rfl ?_
        refine rr_zald (n := 30) dX6_count_68 rfl rfl rfl (by omega) (by omega) (fun _ => rfl) ?_
        refine aw_if_eq (tgt := 76) dX6_count_69 (by decide) (by omega) (fun c_69 => ?_) (fun c_69 => ?_)
        · refine aw_iconst dX6_count_76 ?_
          refine aw_iadd dX6_count_77 ?_
          refine aw_istore dX6_count_78 (by decide) ?_
          refine aw_iload dX6_count_80 rfl ?_
          refine aw_aload_n dX6_count_82 rfl rfl ?_
          refine rr_getA dX6_count_83 flX6_48 rfl (by decide) ?_
          refine aw_iload dX6_count_86 rfl ?_
          refine rr_iald (n := 30) dX6_count_88 rfl rfl rfl (by omega) (by omega) (fun _ => rfl) ?_
          refine aw_if_lt (tgt := 108) dX6_count_89 (by decide) (by omega) (fun c_89 => ?_) (fun c_89 => ?_)
          · refine aw_iconst dX6_count_108 ?_
            refine aw_iadd dX6_count_109 ?_
            refine aw_istore dX6_count_110 (by decide) ?_
            refine aw_iinc dX6_count_112 rfl (by decide) ?_
            refine aw_goto (tgt := 13) dX6_count_115 (by decide) ?_
            refine AW.lss (ih (n + 1) (by omega)) (And.intro rfl (And.intro rfl (And.intro (congrArg Sum.inl ?_) (And.intro (congrArg Sum.inl ?_) (And.intro (congrArg Sum.inl ?_) (And.intro (congrArg Sum.inl ?_) (And.intro rfl trivial)))))))
            · rw [cnt, pOut]
              first | (rw [decide_eq_true (by omega)]; rfl) | (rw [decide_eq_false (by omega)]; rfl)
            · rw [cnt, pLeft]
              first | (rw [decide_eq_true (by omega)]; rfl) | (rw [decide_eq_false (by omega)]; rfl)
            · rw [cnt, pLate]
              first | (rw [decide_eq_true (by omega)]; rfl) | (rw [decide_eq_false (by omega)]; rfl)
            · rw [cnt, pIn]
              first | (rw [decide_eq_true (by omega)]; rfl) | (rw [decide_eq_false (by omega)]; rfl)
          · refine aw_aload_n dX6_count_92 rfl rfl ?_
            refine rr_getA dX6_count_93 flX6_48 rfl (by decide) ?_
            refine aw_iload dX6_count_96 rfl ?_
            refine rr_iald (n := 30) dX6_count_98 rfl rfl rfl (by omega) (by omega) (fun _ => rfl) ?_
            refine aw_bipush dX6_count_99 (by decide) ?_
            refine aw_icmp_ge (tgt := 108) dX6_count_101 (by decide) (by omega) (by omega) (fun c_101 => ?_) (fun c_101 => ?_)
            · refine aw_iconst dX6_count_108 ?_
              refine aw_iadd dX6_count_109 ?_
              refine aw_istore dX6_count_110 (by decide) ?_
              refine aw_iinc dX6_count_112 rfl (by decide) ?_
              refine aw_goto (tgt := 13) dX6_count_115 (by decide) ?_
              refine AW.lss (ih (n + 1) (by omega)) (And.intro rfl (And.intro rfl (And.intro (congrArg Sum.inl ?_) (And.intro (congrArg Sum.inl ?_) (And.intro (congrArg Sum.inl ?_) (And.intro (congrArg Sum.inl ?_) (And.intro rfl trivial)))))))
              · rw [cnt, pOut]
                first | (rw [decide_eq_true (by omega)]; rfl) | (rw [decide_eq_false (by omega)]; rfl)
              · rw [cnt, pLeft]
                first | (rw [decide_eq_true (by omega)]; rfl) | (rw [decide_eq_false (by omega)]; rfl)
              · rw [cnt, pLate]
                first | (rw [decide_eq_true (by omega)]; rfl) | (rw [decide_eq_false (by omega)]; rfl)
              · rw [cnt, pIn]
                first | (rw [decide_eq_true (by omega)]; rfl) | (rw [decide_eq_false (by omega)]; rfl)
            · refine aw_iconst dX6_count_104 ?_
              refine aw_goto (tgt := 109) dX6_count_105 (by decide) ?_
              refine aw_iadd dX6_count_109 ?_
              refine aw_istore dX6_count_110 (by decide) ?_
              refine aw_iinc dX6_count_112 rfl (by decide) ?_
              refine aw_goto (tgt := 13) dX6_count_115 (by decide) ?_
              refine AW.lss (ih (n + 1) (by omega)) (And.intro rfl (And.intro rfl (And.intro (congrArg Sum.inl ?_) (And.intro (congrArg Sum.inl ?_) (And.intro (congrArg Sum.inl ?_) (And.intro (congrArg Sum.inl ?_) (And.intro rfl trivial)))))))
              · rw [cnt, pOut]
                first | (rw [decide_eq_true (by omega)]; rfl) | (rw [decide_eq_false (by omega)]; rfl)
              · rw [cnt, pLeft]
                first | (rw [decide_eq_true (by omega)]; rfl) | (rw [decide_eq_false (by omega)]; rfl)
              · rw [cnt, pLate]
                first | (rw [decide_eq_true (by omega)]; rfl) | (rw [decide_eq_false (by omega)]; rfl)
              · rw [cnt, pIn]
                first | (rw [decide_eq_true (by omega)]; rfl) | (rw [decide_eq_false (by omega)]; rfl)
        · refine aw_iconst dX6_count_72 ?_
          refine aw_goto (tgt := 77) dX6_count_73 (by decide) ?_
          refine aw_iadd dX6_count_77 ?_
          refine aw_istore dX6_count_78 (by decide) ?_
          refine aw_iload dX6_count_80 rfl ?_
          refine aw_aload_n dX6_count_82 rfl rfl ?_
          refine rr_getA dX6_count_83 flX6_48 rfl (by decide) ?_
          refine aw_iload dX6_count_86 rfl ?_
          refine rr_iald (n := 30) dX6_count_88 rfl rfl rfl (by omega) (by omega) (fun _ => rfl) ?_
          refine aw_if_lt (tgt := 108) dX6_count_89 (by decide) (by omega) (fun c_89 => ?_) (fun c_89 => ?_)
          · refine aw_iconst dX6_count_108 ?_
            refine aw_iadd dX6_count_109 ?_
            refine aw_istore dX6_count_110 (by decide) ?_
            refine aw_iinc dX6_count_112 rfl (by decide) ?_
            refine aw_goto (tgt := 13) dX6_count_115 (by decide) ?_
            refine AW.lss (ih (n + 1) (by omega)) (And.intro rfl (And.intro rfl (And.intro (congrArg Sum.inl ?_) (And.intro (congrArg Sum.inl ?_) (And.intro (congrArg Sum.inl ?_) (And.intro (congrArg Sum.inl ?_) (And.intro rfl trivial)))))))
            · rw [cnt, pOut]
              first | (rw [decide_eq_true (by omega)]; rfl) | (rw [decide_eq_false (by omega)]; rfl)
            · rw [cnt, pLeft]
              first | (rw [decide_eq_true (by omega)]; rfl) | (rw [decide_eq_false (by omega)]; rfl)
            · rw [cnt, pLate]
              first | (rw [decide_eq_true (by omega)]; rfl) | (rw [decide_eq_false (by omega)]; rfl)
            · rw [cnt, pIn]
              first | (rw [decide_eq_true (by omega)]; rfl) | (rw [decide_eq_false (by omega)]; rfl)
          · refine aw_aload_n dX6_count_92 rfl rfl ?_
            refine rr_getA dX6_count_93 flX6_48 rfl (by decide) ?_
            refine aw_iload dX6_count_96 rfl ?_
            refine rr_iald (n := 30) dX6_count_98 rfl rfl rfl (by omega) (by omega) (fun _ => rfl) ?_
            refine aw_bipush dX6_count_99 (by decide) ?_
            refine aw_icmp_ge (tgt := 108) dX6_count_101 (by decide) (by omega) (by omega) (fun c_101 => ?_) (fun c_101 => ?_)
            · refine aw_iconst dX6_count_108 ?_
              refine aw_iadd dX6_count_109 ?_
              refine aw_istore dX6_count_110 (by decide) ?_
              refine aw_iinc dX6_count_112 rfl (by decide) ?_
              refine aw_goto (tgt := 13) dX6_count_115 (by decide) ?_
              refine AW.lss (ih (n + 1) (by omega)) (And.intro rfl (And.intro rfl (And.intro (congrArg Sum.inl ?_) (And.intro (congrArg Sum.inl ?_) (And.intro (congrArg Sum.inl ?_) (And.intro (congrArg Sum.inl ?_) (And.intro rfl trivial)))))))
              · rw [cnt, pOut]
                first | (rw [decide_eq_true (by omega)]; rfl) | (rw [decide_eq_false (by omega)]; rfl)
              · rw [cnt, pLeft]
                first | (rw [decide_eq_true (by omega)]; rfl) | (rw [decide_eq_false (by omega)]; rfl)
              · rw [cnt, pLate]
                first | (rw [decide_eq_true (by omega)]; rfl) | (rw [decide_eq_false (by omega)]; rfl)
              · rw [cnt, pIn]
                first | (rw [decide_eq_true (by omega)]; rfl) | (rw [decide_eq_false (by omega)]; rfl)
            · refine aw_iconst dX6_count_104 ?_
              refine aw_goto (tgt := 109) dX6_count_105 (by decide) ?_
              refine aw_iadd dX6_count_109 ?_
              refine aw_istore dX6_count_110 (by decide) ?_
              refine aw_iinc dX6_count_112 rfl (by decide) ?_
              refine aw_goto (tgt := 13) dX6_count_115 (by decide) ?_
              refine AW.lss (ih (n + 1) (by omega)) (And.intro rfl (And.intro rfl (And.intro (congrArg Sum.inl ?_) (And.intro (congrArg Sum.inl ?_) (And.intro (congrArg Sum.inl ?_) (And.intro (congrArg Sum.inl ?_) (And.intro rfl trivial)))))))
              · rw [cnt, pOut]
                first | (rw [decide_eq_true (by omega)]; rfl) | (rw [decide_eq_false (by omega)]; rfl)
              · rw [cnt, pLeft]
                first | (rw [decide_eq_true (by omega)]; rfl) | (rw [decide_eq_false (by omega)]; rfl)
              · rw [cnt, pLate]
                first | (rw [decide_eq_true (by omega)]; rfl) | (rw [decide_eq_false (by omega)]; rfl)
              · rw [cnt, pIn]
                first | (rw [decide_eq_true (by omega)]; rfl) | (rw [decide_eq_false (by omega)]; rfl)
      · refine aw_iconst dX6_count_53 ?_
        refine aw_goto (tgt := 58) dX6_count_54 (by decide) ?_
        refine aw_iadd dX6_count_58 ?_
        refine aw_istore_n dX6_count_59 rfl (by decide) ?_
        refine aw_iload dX6_count_60 rfl ?_
        refine aw_aload_n dX6_count_62 rfl rfl ?_
        refine rr_getA dX6_count_63 flX6_54 rfl (by decide) ?_
        refine aw_iload dX6_count_66 rfl ?_
        refine rr_zald (n := 30) dX6_count_68 rfl rfl rfl (by omega) (by omega) (fun _ => rfl) ?_
        refine aw_if_eq (tgt := 76) dX6_count_69 (by decide) (by omega) (fun c_69 => ?_) (fun c_69 => ?_)
        · refine aw_iconst dX6_count_76 ?_
          refine aw_iadd dX6_count_77 ?_
          refine aw_istore dX6_count_78 (by decide) ?_
          refine aw_iload dX6_count_80 rfl ?_
          refine aw_aload_n dX6_count_82 rfl rfl ?_
          refine rr_getA dX6_count_83 flX6_48 rfl (by decide) ?_
          refine aw_iload dX6_count_86 rfl ?_
          refine rr_iald (n := 30) dX6_count_88 rfl rfl rfl (by omega) (by omega) (fun _ => rfl) ?_
          refine aw_if_lt (tgt := 108) dX6_count_89 (by decide) (by omega) (fun c_89 => ?_) (fun c_89 => ?_)
          · refine aw_iconst dX6_count_108 ?_
            refine aw_iadd dX6_count_109 ?_
            refine aw_istore dX6_count_110 (by decide) ?_
            refine aw_iinc dX6_count_112 rfl (by decide) ?_
            refine aw_goto (tgt := 13) dX6_count_115 (by decide) ?_
            refine AW.lss (ih (n + 1) (by omega)) (And.intro rfl (And.intro rfl (And.intro (congrArg Sum.inl ?_) (And.intro (congrArg Sum.inl ?_) (And.intro (congrArg Sum.inl ?_) (And.intro (congrArg Sum.inl ?_) (And.intro rfl trivial)))))))
            · rw [cnt, pOut]
              first | (rw [decide_eq_true (by omega)]; rfl) | (rw [decide_eq_false (by omega)]; rfl)
            · rw [cnt, pLeft]
              first | (rw [decide_eq_true (by omega)]; rfl) | (rw [decide_eq_false (by omega)]; rfl)
            · rw [cnt, pLate]
              first | (rw [decide_eq_true (by omega)]; rfl) | (rw [decide_eq_false (by omega)]; rfl)
            · rw [cnt, pIn]
              first | (rw [decide_eq_true (by omega)]; rfl) | (rw [decide_eq_false (by omega)]; rfl)
          · refine aw_aload_n dX6_count_92 rfl rfl ?_
            refine rr_getA dX6_count_93 flX6_48 rfl (by decide) ?_
            refine aw_iload dX6_count_96 rfl ?_
            refine rr_iald (n := 30) dX6_count_98 rfl rfl rfl (by omega) (by omega) (fun _ => rfl) ?_
            refine aw_bipush dX6_count_99 (by decide) ?_
            refine aw_icmp_ge (tgt := 108) dX6_count_101 (by decide) (by omega) (by omega) (fun c_101 => ?_) (fun c_101 => ?_)
            · refine aw_iconst dX6_count_108 ?_
              refine aw_iadd dX6_count_109 ?_
              refine aw_istore dX6_count_110 (by decide) ?_
              refine aw_iinc dX6_count_112 rfl (by decide) ?_
              refine aw_goto (tgt := 13) dX6_count_115 (by decide) ?_
              refine AW.lss (ih (n + 1) (by omega)) (And.intro rfl (And.intro rfl (And.intro (congrArg Sum.inl ?_) (And.intro (congrArg Sum.inl ?_) (And.intro (congrArg Sum.inl ?_) (And.intro (congrArg Sum.inl ?_) (And.intro rfl trivial)))))))
              · rw [cnt, pOut]
                first | (rw [decide_eq_true (by omega)]; rfl) | (rw [decide_eq_false (by omega)]; rfl)
              · rw [cnt, pLeft]
                first | (rw [decide_eq_true (by omega)]; rfl) | (rw [decide_eq_false (by omega)]; rfl)
              · rw [cnt, pLate]
                first | (rw [decide_eq_true (by omega)]; rfl) | (rw [decide_eq_false (by omega)]; rfl)
              · rw [cnt, pIn]
                first | (rw [decide_eq_true (by omega)]; rfl) | (rw [decide_eq_false (by omega)]; rfl)
            · refine aw_iconst dX6_count_104 ?_
              refine aw_goto (tgt := 109) dX6_count_105 (by decide) ?_
              refine aw_iadd dX6_count_109 ?_
              refine aw_istore dX6_count_110 (by decide) ?_
              refine aw_iinc dX6_count_112 rfl (by decide) ?_
              refine aw_goto (tgt := 13) dX6_count_115 (by decide) ?_
              refine AW.lss (ih (n + 1) (by omega)) (And.intro rfl (And.intro rfl (And.intro (congrArg Sum.inl ?_) (And.intro (congrArg Sum.inl ?_) (And.intro (congrArg Sum.inl ?_) (And.intro (congrArg Sum.inl ?_) (And.intro rfl trivial)))))))
              · rw [cnt, pOut]
                first | (rw [decide_eq_true (by omega)]; rfl) | (rw [decide_eq_false (by omega)]; rfl)
              · rw [cnt, pLeft]
                first | (rw [decide_eq_true (by omega)]; rfl) | (rw [decide_eq_false (by omega)]; rfl)
              · rw [cnt, pLate]
                first | (rw [decide_eq_true (by omega)]; rfl) | (rw [decide_eq_false (by omega)]; rfl)
              · rw [cnt, pIn]
                first | (rw [decide_eq_true (by omega)]; rfl) | (rw [decide_eq_false (by omega)]; rfl)
        · refine aw_iconst dX6_count_72 ?_
          refine aw_goto (tgt := 77) dX6_count_73 (by decide) ?_
          refine aw_iadd dX6_count_77 ?_
          refine aw_istore dX6_count_78 (by decide) ?_
          refine aw_iload dX6_count_80 rfl ?_
          refine aw_aload_n dX6_count_82 rfl rfl ?_
          refine rr_getA dX6_count_83 flX6_48 rfl (by decide) ?_
          refine aw_iload dX6_count_86 rfl ?_
          refine rr_iald (n := 30) dX6_count_88 rfl rfl rfl (by omega) (by omega) (fun _ => rfl) ?_
          refine aw_if_lt (tgt := 108) dX6_count_89 (by decide) (by omega) (fun c_89 => ?_) (fun c_89 => ?_)
          · refine aw_iconst dX6_count_108 ?_
            refine aw_iadd dX6_count_109 ?_
            refine aw_istore dX6_count_110 (by decide) ?_
            refine aw_iinc dX6_count_112 rfl (by decide) ?_
            refine aw_goto (tgt := 13) dX6_count_115 (by decide) ?_
            refine AW.lss (ih (n + 1) (by omega)) (And.intro rfl (And.intro rfl (And.intro (congrArg Sum.inl ?_) (And.intro (congrArg Sum.inl ?_) (And.intro (congrArg Sum.inl ?_) (And.intro (congrArg Sum.inl ?_) (And.intro rfl trivial)))))))
            · rw [cnt, pOut]
              first | (rw [decide_eq_true (by omega)]; rfl) | (rw [decide_eq_false (by omega)]; rfl)
            · rw [cnt, pLeft]
              first | (rw [decide_eq_true (by omega)]; rfl) | (rw [decide_eq_false (by omega)]; rfl)
            · rw [cnt, pLate]
              first | (rw [decide_eq_true (by omega)]; rfl) | (rw [decide_eq_false (by omega)]; rfl)
            · rw [cnt, pIn]
              first | (rw [decide_eq_true (by omega)]; rfl) | (rw [decide_eq_false (by omega)]; rfl)
          · refine aw_aload_n dX6_count_92 rfl rfl ?_
            refine rr_getA dX6_count_93 flX6_48 rfl (by decide) ?_
            refine aw_iload dX6_count_96 rfl ?_
            refine rr_iald (n := 30) dX6_count_98 rfl rfl rfl (by omega) (by omega) (fun _ => rfl) ?_
            refine aw_bipush dX6_count_99 (by decide) ?_
            refine aw_icmp_ge (tgt := 108) dX6_count_101 (by decide) (by omega) (by omega) (fun c_101 => ?_) (fun c_101 => ?_)
            · refine aw_iconst dX6_count_108 ?_
              refine aw_iadd dX6_count_109 ?_
              refine aw_istore dX6_count_110 (by decide) ?_
              refine aw_iinc dX6_count_112 rfl (by decide) ?_
              refine aw_goto (tgt := 13) dX6_count_115 (by decide) ?_
              refine AW.lss (ih (n + 1) (by omega)) (And.intro rfl (And.intro rfl (And.intro (congrArg Sum.inl ?_) (And.intro (congrArg Sum.inl ?_) (And.intro (congrArg Sum.inl ?_) (And.intro (congrArg Sum.inl ?_) (And.intro rfl trivial)))))))
              · rw [cnt, pOut]
                first | (rw [decide_eq_true (by omega)]; rfl) | (rw [decide_eq_false (by omega)]; rfl)
              · rw [cnt, pLeft]
                first | (rw [decide_eq_true (by omega)]; rfl) | (rw [decide_eq_false (by omega)]; rfl)
              · rw [cnt, pLate]
                first | (rw [decide_eq_true (by omega)]; rfl) | (rw [decide_eq_false (by omega)]; rfl)
              · rw [cnt, pIn]
                first | (rw [decide_eq_true (by omega)]; rfl) | (rw [decide_eq_false (by omega)]; rfl)
            · refine aw_iconst dX6_count_104 ?_
              refine aw_goto (tgt := 109) dX6_count_105 (by decide) ?_
              refine aw_iadd dX6_count_109 ?_
              refine aw_istore dX6_count_110 (by decide) ?_
              refine aw_iinc dX6_count_112 rfl (by decide) ?_
              refine aw_goto (tgt := 13) dX6_count_115 (by decide) ?_
              refine AW.lss (ih (n + 1) (by omega)) (And.intro rfl (And.intro rfl (And.intro (congrArg Sum.inl ?_) (And.intro (congrArg Sum.inl ?_) (And.intro (congrArg Sum.inl ?_) (And.intro (congrArg Sum.inl ?_) (And.intro rfl trivial)))))))
              · rw [cnt, pOut]
                first | (rw [decide_eq_true (by omega)]; rfl) | (rw [decide_eq_false (by omega)]; rfl)
              · rw [cnt, pLeft]
                first | (rw [decide_eq_true (by omega)]; rfl) | (rw [decide_eq_false (by omega)]; rfl)
              · rw [cnt, pLate]
                first | (rw [decide_eq_true (by omega)]; rfl) | (rw [decide_eq_false (by omega)]; rfl)
              · rw [cnt, pIn]
                first | (rw [decide_eq_true (by omega)]; rfl) | (rw [decide_eq_false (by omega)]; rfl)
    · refine aw_iconst dX6_count_35 ?_
      refine aw_goto (tgt := 40) dX6_count_36 (by decide) ?_
      refine aw_iadd dX6_count_40 ?_
      refine aw_istore_n dX6_count_41 rfl (by decide) ?_
      refine aw_iload_n dX6_count_42 rfl rfl ?_
      refine aw_aload_n dX6_count_43 rfl rfl ?_
      refine rr_getA dX6_count_44 flX6_57 rfl (by decide) ?_
      refine aw_iload dX6_count_47 rfl ?_
      refine rr_zald (n := 30) dX6_count_49 rfl rfl rfl (by omega) (by omega) (fun _ => rfl) ?_
      refine aw_if_eq (tgt := 57) dX6_count_50 (by decide) (by omega) (fun c_50 => ?_) (fun c_50 => ?_)
      · refine aw_iconst dX6_count_57 ?_
        refine aw_iadd dX6_count_58 ?_
        refine aw_istore_n dX6_count_59 rfl (by decide) ?_
        refine aw_iload dX6_count_60 rfl ?_
        refine aw_aload_n dX6_count_62 rfl rfl ?_
        refine rr_getA dX6_count_63 flX6_54 rfl (by decide) ?_
        refine aw_iload dX6_count_66 rfl ?_
        refine rr_zald (n := 30) dX6_count_68 rfl rfl rfl (by omega) (by omega) (fun _ => rfl) ?_
        refine aw_if_eq (tgt := 76) dX6_count_69 (by decide) (by omega) (fun c_69 => ?_) (fun c_69 => ?_)
        · refine aw_iconst dX6_count_76 ?_
          refine aw_iadd dX6_count_77 ?_
          refine aw_istore dX6_count_78 (by decide) ?_
          refine aw_iload dX6_count_80 rfl ?_
          refine aw_aload_n dX6_count_82 rfl rfl ?_
          refine rr_getA dX6_count_83 flX6_48 rfl (by decide) ?_
          refine aw_iload dX6_count_86 rfl ?_
          refine rr_iald (n := 30) dX6_count_88 rfl rfl rfl (by omega) (by omega) (fun _ => rfl) ?_
          refine aw_if_lt (tgt := 108) dX6_count_89 (by decide) (by omega) (fun c_89 => ?_) (fun c_89 => ?_)
          · refine aw_iconst dX6_count_108 ?_
            refine aw_iadd dX6_count_109 ?_
            refine aw_istore dX6_count_110 (by decide) ?_
            refine aw_iinc dX6_count_112 rfl (by decide) ?_
            refine aw_goto (tgt := 13) dX6_count_115 (by decide) ?_
            refine AW.lss (ih (n + 1) (by omega)) (And.intro rfl (And.intro rfl (And.intro (congrArg Sum.inl ?_) (And.intro (congrArg Sum.inl ?_) (And.intro (congrArg Sum.inl ?_) (And.intro (congrArg Sum.inl ?_) (And.intro rfl trivial)))))))
            · rw [cnt, pOut]
              first | (rw [decide_eq_true (by omega)]; rfl) | (rw [decide_eq_false (by omega)]; rfl)
            · rw [cnt, pLeft]
              first | (rw [decide_eq_true (by omega)]; rfl) | (rw [decide_eq_false (by omega)]; rfl)
            · rw [cnt, pLate]
              first | (rw [decide_eq_true (by omega)]; rfl) | (rw [decide_eq_false (by omega)]; rfl)
            · rw [cnt, pIn]
              first | (rw [decide_eq_true (by omega)]; rfl) | (rw [decide_eq_false (by omega)]; rfl)
          · refine aw_aload_n dX6_count_92 rfl rfl ?_
            refine rr_getA dX6_count_93 flX6_48 rfl (by decide) ?_
            refine aw_iload dX6_count_96 rfl ?_
            refine rr_iald (n := 30) dX6_count_98 rfl rfl rfl (by omega) (by omega) (fun _ => rfl) ?_
            refine aw_bipush dX6_count_99 (by decide) ?_
            refine aw_icmp_ge (tgt := 108) dX6_count_101 (by decide) (by omega) (by omega) (fun c_101 => ?_) (fun c_101 => ?_)
            · refine aw_iconst dX6_count_108 ?_
              refine aw_iadd dX6_count_109 ?_
              refine aw_istore dX6_count_110 (by decide) ?_
              refine aw_iinc dX6_count_112 rfl (by decide) ?_
              refine aw_goto (tgt := 13) dX6_count_115 (by decide) ?_
              refine AW.lss (ih (n + 1) (by omega)) (And.intro rfl (And.intro rfl (And.intro (congrArg Sum.inl ?_) (And.intro (congrArg Sum.inl ?_) (And.intro (congrArg Sum.inl ?_) (And.intro (congrArg Sum.inl ?_) (And.intro rfl trivial)))))))
              · rw [cnt, pOut]
                first | (rw [decide_eq_true (by omega)]; rfl) | (rw [decide_eq_false (by omega)]; rfl)
              · rw [cnt, pLeft]
                first | (rw [decide_eq_true (by omega)]; rfl) | (rw [decide_eq_false (by omega)]; rfl)
              · rw [cnt, pLate]
                first | (rw [decide_eq_true (by omega)]; rfl) | (rw [decide_eq_false (by omega)]; rfl)
              · rw [cnt, pIn]
                first | (rw [decide_eq_true (by omega)]; rfl) | (rw [decide_eq_false (by omega)]; rfl)
            · refine aw_iconst dX6_count_104 ?_
              refine aw_goto (tgt := 109) dX6_count_105 (by decide) ?_
              refine aw_iadd dX6_count_109 ?_
              refine aw_istore dX6_count_110 (by decide) ?_
              refine aw_iinc dX6_count_112 rfl (by decide) ?_
              refine aw_goto (tgt := 13) dX6_count_115 (by decide) ?_
              refine AW.lss (ih (n + 1) (by omega)) (And.intro rfl (And.intro rfl (And.intro (congrArg Sum.inl ?_) (And.intro (congrArg Sum.inl ?_) (And.intro (congrArg Sum.inl ?_) (And.intro (congrArg Sum.inl ?_) (And.intro rfl trivial)))))))
              · rw [cnt, pOut]
                first | (rw [decide_eq_true (by omega)]; rfl) | (rw [decide_eq_false (by omega)]; rfl)
              · rw [cnt, pLeft]
                first | (rw [decide_eq_true (by omega)]; rfl) | (rw [decide_eq_false (by omega)]; rfl)
              · rw [cnt, pLate]
                first | (rw [decide_eq_true (by omega)]; rfl) | (rw [decide_eq_false (by omega)]; rfl)
              · rw [cnt, pIn]
                first | (rw [decide_eq_true (by omega)]; rfl) | (rw [decide_eq_false (by omega)]; rfl)
        · refine aw_iconst dX6_count_72 ?_
          refine aw_goto (tgt := 77) dX6_count_73 (by decide) ?_
          refine aw_iadd dX6_count_77 ?_
          refine aw_istore dX6_count_78 (by decide) ?_
          refine aw_iload dX6_count_80 rfl ?_
          refine aw_aload_n dX6_count_82 rfl rfl ?_
          refine rr_getA dX6_count_83 flX6_48 rfl (by decide) ?_
          refine aw_iload dX6_count_86 rfl ?_
          refine rr_iald (n := 30) dX6_count_88 rfl rfl rfl (by omega) (by omega) (fun _ => rfl) ?_
          refine aw_if_lt (tgt := 108) dX6_count_89 (by decide) (by omega) (fun c_89 => ?_) (fun c_89 => ?_)
          · refine aw_iconst dX6_count_108 ?_
            refine aw_iadd dX6_count_109 ?_
            refine aw_istore dX6_count_110 (by decide) ?_
            refine aw_iinc dX6_count_112 rfl (by decide) ?_
            refine aw_goto (tgt := 13) dX6_count_115 (by decide) ?_
            refine AW.lss (ih (n + 1) (by omega)) (And.intro rfl (And.intro rfl (And.intro (congrArg Sum.inl ?_) (And.intro (congrArg Sum.inl ?_) (And.intro (congrArg Sum.inl ?_) (And.intro (congrArg Sum.inl ?_) (And.intro rfl trivial)))))))
            · rw [cnt, pOut]
              first | (rw [decide_eq_true (by omega)]; rfl) | (rw [decide_eq_false (by omega)]; rfl)
            · rw [cnt, pLeft]
              first | (rw [decide_eq_true (by omega)]; rfl) | (rw [decide_eq_false (by omega)]; rfl)
            · rw [cnt, pLate]
              first | (rw [decide_eq_true (by omega)]; rfl) | (rw [decide_eq_false (by omega)]; rfl)
            · rw [cnt, pIn]
              first | (rw [decide_eq_true (by omega)]; rfl) | (rw [decide_eq_false (by omega)]; rfl)
          · refine aw_aload_n dX6_count_92 rfl rfl ?_
            refine rr_getA dX6_count_93 flX6_48 rfl (by decide) ?_
            refine aw_iload dX6_count_96 rfl ?_
            refine rr_iald (n := 30) dX6_count_98 rfl rfl rfl (by omega) (by omega) (fun _ => rfl) ?_
            refine aw_bipush dX6_count_99 (by decide) ?_
            refine aw_icmp_ge (tgt := 108) dX6_count_101 (by decide) (by omega) (by omega) (fun c_101 => ?_) (fun c_101 => ?_)
            · refine aw_iconst dX6_count_108 ?_
              refine aw_iadd dX6_count_109 ?_
              refine aw_istore dX6_count_110 (by decide) ?_
              refine aw_iinc dX6_count_112 rfl (by decide) ?_
              refine aw_goto (tgt := 13) dX6_count_115 (by decide) ?_
              refine AW.lss (ih (n + 1) (by omega)) (And.intro rfl (And.intro rfl (And.intro (congrArg Sum.inl ?_) (And.intro (congrArg Sum.inl ?_) (And.intro (congrArg Sum.inl ?_) (And.intro (congrArg Sum.inl ?_) (And.intro rfl trivial)))))))
              · rw [cnt, pOut]
                first | (rw [decide_eq_true (by omega)]; rfl) | (rw [decide_eq_false (by omega)]; rfl)
              · rw [cnt, pLeft]
                first | (rw [decide_eq_true (by omega)]; rfl) | (rw [decide_eq_false (by omega)]; rfl)
              · rw [cnt, pLate]
                first | (rw [decide_eq_true (by omega)]; rfl) | (rw [decide_eq_false (by omega)]; rfl)
              · rw [cnt, pIn]
                first | (rw [decide_eq_true (by omega)]; rfl) | (rw [decide_eq_false (by omega)]; rfl)
            · refine aw_iconst dX6_count_104 ?_
              refine aw_goto (tgt := 109) dX6_count_105 (by decide) ?_
              refine aw_iadd dX6_count_109 ?_
              refine aw_istore dX6_count_110 (by decide) ?_
              refine aw_iinc dX6_count_112 rfl (by decide) ?_
              refine aw_goto (tgt := 13) dX6_count_115 (by decide) ?_
              refine AW.lss (ih (n + 1) (by omega)) (And.intro rfl (And.intro rfl (And.intro (congrArg Sum.inl ?_) (And.intro (congrArg Sum.inl ?_) (And.intro (congrArg Sum.inl ?_) (And.intro (congrArg Sum.inl ?_) (And.intro rfl trivial)))))))
              · rw [cnt, pOut]
                first | (rw [decide_eq_true (by omega)]; rfl) | (rw [decide_eq_false (by omega)]; rfl)
              · rw [cnt, pLeft]
                first | (rw [decide_eq_true (by omega)]; rfl) | (rw [decide_eq_false (by omega)]; rfl)
              · rw [cnt, pLate]
                first | (rw [decide_eq_true (by omega)]; rfl) | (rw [decide_eq_false (by omega)]; rfl)
              · rw [cnt, pIn]
                first | (rw [decide_eq_true (by omega)]; rfl) | (rw [decide_eq_false (by omega)]; rfl)
      · refine aw_iconst dX6_count_53 ?_
        refine aw_goto (tgt := 58) dX6_count_54 (by decide) ?_
        refine aw_iadd dX6_count_58 ?_
        refine aw_istore_n dX6_count_59 rfl (by decide) ?_
        refine aw_iload dX6_count_60 rfl ?_
        refine aw_aload_n dX6_count_62 rfl rfl ?_
        refine rr_getA dX6_count_63 flX6_54 rfl (by decide) ?_
        refine aw_iload dX6_count_66 rfl ?_
        refine rr_zald (n := 30) dX6_count_68 rfl rfl rfl (by omega) (by omega) (fun _ => rfl) ?_
        refine aw_if_eq (tgt := 76) dX6_count_69 (by decide) (by omega) (fun c_69 => ?_) (fun c_69 => ?_)
        · refine aw_iconst dX6_count_76 ?_
          refine aw_iadd dX6_count_77 ?_
          refine aw_istore dX6_count_78 (by decide) ?_
          refine aw_iload dX6_count_80 rfl ?_
          refine aw_aload_n dX6_count_82 rfl rfl ?_
          refine rr_getA dX6_count_83 flX6_48 rfl (by decide) ?_
          refine aw_iload dX6_count_86 rfl ?_
          refine rr_iald (n := 30) dX6_count_88 rfl rfl rfl (by omega) (by omega) (fun _ => rfl) ?_
          refine aw_if_lt (tgt := 108) dX6_count_89 (by decide) (by omega) (fun c_89 => ?_) (fun c_89 => ?_)
          · refine aw_iconst dX6_count_108 ?_
            refine aw_iadd dX6_count_109 ?_
            refine aw_istore dX6_count_110 (by decide) ?_
            refine aw_iinc dX6_count_112 rfl (by decide) ?_
            refine aw_goto (tgt := 13) dX6_count_115 (by decide) ?_
            refine AW.lss (ih (n + 1) (by omega)) (And.intro rfl (And.intro rfl (And.intro (congrArg Sum.inl ?_) (And.intro (congrArg Sum.inl ?_) (And.intro (congrArg Sum.inl ?_) (And.intro (congrArg Sum.inl ?_) (And.intro rfl trivial)))))))
            · rw [cnt, pOut]
              first | (rw [decide_eq_true (by omega)]; rfl) | (rw [decide_eq_false (by omega)]; rfl)
            · rw [cnt, pLeft]
              first | (rw [decide_eq_true (by omega)]; rfl) | (rw [decide_eq_false (by omega)]; rfl)
            · rw [cnt, pLate]
              first | (rw [decide_eq_true (by omega)]; rfl) | (rw [decide_eq_false (by omega)]; rfl)
            · rw [cnt, pIn]
              first | (rw [decide_eq_true (by omega)]; rfl) | (rw [decide_eq_false (by omega)]; rfl)
          · refine aw_aload_n dX6_count_92 rfl rfl ?_
            refine rr_getA dX6_count_93 flX6_48 rfl (by decide) ?_
            refine aw_iload dX6_count_96 rfl ?_
            refine rr_iald (n := 30) dX6_count_98 rfl rfl rfl (by omega) (by omega) (fun _ => rfl) ?_
            refine aw_bipush dX6_count_99 (by decide) ?_
            refine aw_icmp_ge (tgt := 108) dX6_count_101 (by decide) (by omega) (by omega) (fun c_101 => ?_) (fun c_101 => ?_)
            · refine aw_iconst dX6_count_108 ?_
              refine aw_iadd dX6_count_109 ?_
              refine aw_istore dX6_count_110 (by decide) ?_
              refine aw_iinc dX6_count_112 rfl (by decide) ?_
              refine aw_goto (tgt := 13) dX6_count_115 (by decide) ?_
              refine AW.lss (ih (n + 1) (by omega)) (And.intro rfl (And.intro rfl (And.intro (congrArg Sum.inl ?_) (And.intro (congrArg Sum.inl ?_) (And.intro (congrArg Sum.inl ?_) (And.intro (congrArg Sum.inl ?_) (And.intro rfl trivial)))))))
              · rw [cnt, pOut]
                first | (rw [decide_eq_true (by omega)]; rfl) | (rw [decide_eq_false (by omega)]; rfl)
              · rw [cnt, pLeft]
                first | (rw [decide_eq_true (by omega)]; rfl) | (rw [decide_eq_false (by omega)]; rfl)
              · rw [cnt, pLate]
                first | (rw [decide_eq_true (by omega)]; rfl) | (rw [decide_eq_false (by omega)]; rfl)
              · rw [cnt, pIn]
                first | (rw [decide_eq_true (by omega)]; rfl) | (rw [decide_eq_false (by omega)]; rfl)
            · refine aw_iconst dX6_count_104 ?_
              refine aw_goto (tgt := 109) dX6_count_105 (by decide) ?_
              refine aw_iadd dX6_count_109 ?_
              refine aw_istore dX6_count_110 (by decide) ?_
              refine aw_iinc dX6_count_112 rfl (by decide) ?_
              refine aw_goto (tgt := 13) dX6_count_115 (by decide) ?_
              refine AW.lss (ih (n + 1) (by omega)) (And.intro rfl (And.intro rfl (And.intro (congrArg Sum.inl ?_) (And.intro (congrArg Sum.inl ?_) (And.intro (congrArg Sum.inl ?_) (And.intro (congrArg Sum.inl ?_) (And.intro rfl trivial)))))))
              · rw [cnt, pOut]
                first | (rw [decide_eq_true (by omega)]; rfl) | (rw [decide_eq_false (by omega)]; rfl)
              · rw [cnt, pLeft]
                first | (rw [decide_eq_true (by omega)]; rfl) | (rw [decide_eq_false (by omega)]; rfl)
              · rw [cnt, pLate]
                first | (rw [decide_eq_true (by omega)]; rfl) | (rw [decide_eq_false (by omega)]; rfl)
              · rw [cnt, pIn]
                first | (rw [decide_eq_true (by omega)]; rfl) | (rw [decide_eq_false (by omega)]; rfl)
        · refine aw_iconst dX6_count_72 ?_
          refine aw_goto (tgt := 77) dX6_count_73 (by decide) ?_
          refine aw_iadd dX6_count_77 ?_
          refine aw_istore dX6_count_78 (by decide) ?_
          refine aw_iload dX6_count_80 rfl ?_
          refine aw_aload_n dX6_count_82 rfl rfl ?_
          refine rr_getA dX6_count_83 flX6_48 rfl (by decide) ?_
          refine aw_iload dX6_count_86 rfl ?_
          refine rr_iald (n := 30) dX6_count_88 rfl rfl rfl (by omega) (by omega) (fun _ => rfl) ?_
          refine aw_if_lt (tgt := 108) dX6_count_89 (by decide) (by omega) (fun c_89 => ?_) (fun c_89 => ?_)
          · refine aw_iconst dX6_count_108 ?_
            refine aw_iadd dX6_count_109 ?_
            refine aw_istore dX6_count_110 (by decide) ?_
            refine aw_iinc dX6_count_112 rfl (by decide) ?_
            refine aw_goto (tgt := 13) dX6_count_115 (by decide) ?_
            refine AW.lss (ih (n + 1) (by omega)) (And.intro rfl (And.intro rfl (And.intro (congrArg Sum.inl ?_) (And.intro (congrArg Sum.inl ?_) (And.intro (congrArg Sum.inl ?_) (And.intro (congrArg Sum.inl ?_) (And.intro rfl trivial)))))))
            · rw [cnt, pOut]
              first | (rw [decide_eq_true (by omega)]; rfl) | (rw [decide_eq_false (by omega)]; rfl)
            · rw [cnt, pLeft]
              first | (rw [decide_eq_true (by omega)]; rfl) | (rw [decide_eq_false (by omega)]; rfl)
            · rw [cnt, pLate]
              first | (rw [decide_eq_true (by omega)]; rfl) | (rw [decide_eq_false (by omega)]; rfl)
            · rw [cnt, pIn]
              first | (rw [decide_eq_true (by omega)]; rfl) | (rw [decide_eq_false (by omega)]; rfl)
          · refine aw_aload_n dX6_count_92 rfl rfl ?_
            refine rr_getA dX6_count_93 flX6_48 rfl (by decide) ?_
            refine aw_iload dX6_count_96 rfl ?_
            refine rr_iald (n := 30) dX6_count_98 rfl rfl rfl (by omega) (by omega) (fun _ => rfl) ?_
            refine aw_bipush dX6_count_99 (by decide) ?_
            refine aw_icmp_ge (tgt := 108) dX6_count_101 (by decide) (by omega) (by omega) (fun c_101 => ?_) (fun c_101 => ?_)
            · refine aw_iconst dX6_count_108 ?_
              refine aw_iadd dX6_count_109 ?_
              refine aw_istore dX6_count_110 (by decide) ?_
              refine aw_iinc dX6_count_112 rfl (by decide) ?_
              refine aw_goto (tgt := 13) dX6_count_115 (by decide) ?_
              refine AW.lss (ih (n + 1) (by omega)) (And.intro rfl (And.intro rfl (And.intro (congrArg Sum.inl ?_) (And.intro (congrArg Sum.inl ?_) (And.intro (congrArg Sum.inl ?_) (And.intro (congrArg Sum.inl ?_) (And.intro rfl trivial)))))))
              · rw [cnt, pOut]
                first | (rw [decide_eq_true (by omega)]; rfl) | (rw [decide_eq_false (by omega)]; rfl)
              · rw [cnt, pLeft]
                first | (rw [decide_eq_true (by omega)]; rfl) | (rw [decide_eq_false (by omega)]; rfl)
              · rw [cnt, pLate]
                first | (rw [decide_eq_true (by omega)]; rfl) | (rw [decide_eq_false (by omega)]; rfl)
              · rw [cnt, pIn]
                first | (rw [decide_eq_true (by omega)]; rfl) | (rw [decide_eq_false (by omega)]; rfl)
            · refine aw_iconst dX6_count_104 ?_
              refine aw_goto (tgt := 109) dX6_count_105 (by decide) ?_
              refine aw_iadd dX6_count_109 ?_
              refine aw_istore dX6_count_110 (by decide) ?_
              refine aw_iinc dX6_count_112 rfl (by decide) ?_
              refine aw_goto (tgt := 13) dX6_count_115 (by decide) ?_
              refine AW.lss (ih (n + 1) (by omega)) (And.intro rfl (And.intro rfl (And.intro (congrArg Sum.inl ?_) (And.intro (congrArg Sum.inl ?_) (And.intro (congrArg Sum.inl ?_) (And.intro (congrArg Sum.inl ?_) (And.intro rfl trivial)))))))
              · rw [cnt, pOut]
                first | (rw [decide_eq_true (by omega)]; rfl) | (rw [decide_eq_false (by omega)]; rfl)
              · rw [cnt, pLeft]
                first | (rw [decide_eq_true (by omega)]; rfl) | (rw [decide_eq_false (by omega)]; rfl)
              · rw [cnt, pLate]
                first | (rw [decide_eq_true (by omega)]; rfl) | (rw [decide_eq_false (by omega)]; rfl)
              · rw [cnt, pIn]
                first | (rw [decide_eq_true (by omega)]; rfl) | (rw [decide_eq_false (by omega)]; rfl)
set_option maxRecDepth 100000 in
set_option maxHeartbeats 4000000 in
theorem c_X6_count {w : Int} (hB : BB S) (hw : Rg w) : CT l D cA A ad yX6_count cX6_count 7 (some .int) rm_X6_count [.inr (some (50, 0)), .inl w] lvR (VR S) sz (PR (some (.inl (opCnt S w))) (S) sz) := by
  refine CT.of2 [some (.inr (some (50, 0))), some (.inl w), none, none, none, none, none] (by decide) (Nat.le_of_ble_eq_true rfl) rfl ?_
  refine aw_iconst dX6_count_0 ?_
  refine aw_istore_n dX6_count_1 rfl (by decide) ?_
  refine aw_iconst dX6_count_2 ?_
  refine aw_istore_n dX6_count_3 rfl (by decide) ?_
  refine aw_iconst dX6_count_4 ?_
  refine aw_istore dX6_count_5 (by decide) ?_
  refine aw_iconst dX6_count_7 ?_
  refine aw_istore dX6_count_8 (by decide) ?_
  refine aw_iconst dX6_count_10 ?_
  refine aw_istore dX6_count_11 (by decide) ?_
  exact AW.lss (lp_X6_count hB hw (S 8 0).toNat 0 (by omega)) (And.intro rfl (And.intro rfl (And.intro rfl (And.intro rfl (And.intro rfl (And.intro rfl (And.intro rfl trivial)))))))
end REF6
end
section
/-! ===== the class: which cell stands for which place of the state ===== -/
def src (σ i k : Nat) : Option (Bool × Nat × Int) := match σ, k with
  | 0, 5 => some (false, 24, 0)
  | 0, 8 => some (false, 1, 0)
  | 0, 9 => some (false, 2, 0)
  | 0, 10 => some (false, 0, 0)
  | 1, 1 => some (false, 3, (i : Int))
  | 1, 2 => some (false, 4, (i : Int))
  | 1, 3 => some (false, 5, (i : Int))
  | 2, 1 => some (false, 35, (i : Int))
  | 5, 1 => some (false, 9, (i : Int))
  | 5, 2 => some (false, 10, (i : Int))
  | 5, 3 => some (false, 11, (i : Int))
  | 5, 4 => some (false, 12, (i : Int))
  | 5, 5 => some (false, 13, (i : Int))
  | 5, 6 => some (false, 14, (i : Int))
  | 5, 8 => some (false, 15, (i : Int))
  | 5, 9 => some (false, 16, (i : Int))
  | 5, 10 => some (false, 17, (i : Int))
  | 5, 11 => some (false, 18, (i : Int))
  | 5, 12 => some (false, 19, (i : Int))
  | 5, 13 => some (false, 20, (i : Int))
  | 5, 14 => some (false, 22, (i : Int))
  | 5, 15 => some (false, 36, (i : Int))
  | 7, 0 => some (false, 25, (i : Int))
  | 7, 1 => some (false, 26, (i : Int))
  | 30, 1 => some (false, 33, (i : Int))
  | 31, 1 => some (false, 31, (i : Int))
  | 32, 1 => some (false, 8, 0)
  | 33, 1 => some (false, 27, (i : Int))
  | 34, 1 => some (false, 29, (i : Int))
  | 40, k => some (true, 34, 30 * (i : Int) + k)
  | 41, k => some (true, 32, 30 * (i : Int) + k)
  | 43, k => some (true, 28, 8 * (i : Int) + k)
  | 44, k => some (true, 30, 30 * (i : Int) + k)
  | 6, k => some (false, 23, 7 * (i : Int) + k)
  | 9, k => some (false, 6, (k : Int))
  | 10, k => some (false, 7, (k : Int))
  | _, _ => none
def cst (σ i k : Nat) : AV := match σ, k with
  | 0, 0 => .inr (some (8, 0))
  | 0, 1 => .inr (some (9, 0))
  | 0, 2 => .inr (some (10, 0))
  | 0, 3 => .inr (some (32, 0))
  | 0, 4 => .inr (some (11, 0))
  | 0, 6 => .inr (some (31, 0))
  | 0, 7 => .inr (some (31, 1))
  | 1, 4 => .inr (some (2, 2 * i))
  | 1, 5 => .inr (some (2, 2 * i + 1))
  | 2, 0 => .inr (some (30, i))
  | 5, 7 => .inr (some (6, i))
  | 7, 2 => .inr (some (33, i))
  | 7, 3 => .inr (some (34, i))
  | 30, 0 => .inr (some (40, i))
  | 31, 0 => .inr (some (41, i))
  | 32, 0 => .inr (some (42, i))
  | 33, 0 => .inr (some (43, i))
  | 34, 0 => .inr (some (44, i))
  | 1, 0 => .inl (i : Int)
  | 5, 0 => .inl (i : Int)
  | 42, k => .inr (some (5, k))
  | 8, k => .inr (some (1, k))
  | 11, k => .inr (some (7, k))
  | _, _ => .inr none
def toC (S : SS) (σ i k : Nat) : AV := match src σ i k with
  | some (false, K, x) => .inl (S K x)
  | some (true, K, x) => .inr (some (5, (S K x).toNat))
  | none => cst σ i k
/-- the places that stand for something -/
def okd (S : SS) (σ i k : Nat) : Prop := match σ with
  | 0 => i = 0 ∧ k < 11
  | 1 => i < 8 ∧ k < 6
  | 2 => i < 16 ∧ k < 2
  | 30 => i < 16 ∧ k < 2
  | 31 => i < 2 ∧ k < 2
  | 32 => i = 0 ∧ k < 2
  | 33 => (i : Int) < S 24 0 ∧ k < 2
  | 34 => (i : Int) < S 24 0 ∧ k < 2
  | 40 => (i < 16 ∧ k < 3) ∧ (k : Int) < S 33 i
  | 41 => (i < 2 ∧ k < 30) ∧ (k : Int) < S 31 i
  | 42 => (i = 0 ∧ k < 30) ∧ (k : Int) < S 8 0
  | 43 => ((i : Int) < S 24 0 ∧ k < 8) ∧ (k : Int) < S 27 i
  | 44 => ((i : Int) < S 24 0 ∧ k < 30) ∧ (k : Int) < S 29 i
  | 5 => (i : Int) < S 8 0 ∧ k < 16
  | 6 => (i : Int) < S 8 0 ∧ k < 7
  | 7 => (i : Int) < S 24 0 ∧ k < 4
  | 8 => i = 0 ∧ k < 8
  | 9 => i = 0 ∧ k < 24
  | 10 => i = 0 ∧ k < 24
  | 11 => i = 0 ∧ (k : Int) < S 24 0
  | _ => False
def RepC (S : SS) (V : Vw) : Prop := ∀ σ i k, okd S σ i k → V σ i k = toC S σ i k
def lvC (ns nc : Int) : Lw := fun σ i => match σ with
  | 0 => i == 0
  | 1 => decide (i < 8)
  | 2 => decide (i < 16)
  | 30 => decide (i < 16)
  | 31 => decide (i < 2)
  | 32 => i == 0
  | 33 => decide ((i : Int) < nc)
  | 34 => decide ((i : Int) < nc)
  | 40 => decide (i < 16)
  | 41 => decide (i < 2)
  | 42 => i == 0
  | 43 => decide ((i : Int) < nc)
  | 44 => decide ((i : Int) < nc)
  | 5 => decide ((i : Int) < ns)
  | 6 => decide ((i : Int) < ns)
  | 7 => decide ((i : Int) < nc)
  | 8 => i == 0
  | 9 => i == 0
  | 10 => i == 0
  | 11 => i == 0
  | _ => false
def inv (K : Nat) (x : Int) : Nat × Nat × Nat := match K with
  | 0 => (0, 0, 10)
  | 1 => (0, 0, 8)
  | 2 => (0, 0, 9)
  | 3 => (1, x.toNat, 1)
  | 4 => (1, x.toNat, 2)
  | 5 => (1, x.toNat, 3)
  | 6 => (9, 0, x.toNat)
  | 7 => (10, 0, x.toNat)
  | 8 => (32, 0, 1)
  | 9 => (5, x.toNat, 1)
  | 10 => (5, x.toNat, 2)
  | 11 => (5, x.toNat, 3)
  | 12 => (5, x.toNat, 4)
  | 13 => (5, x.toNat, 5)
  | 14 => (5, x.toNat, 6)
  | 15 => (5, x.toNat, 8)
  | 16 => (5, x.toNat, 9)
  | 17 => (5, x.toNat, 10)
  | 18 => (5, x.toNat, 11)
  | 19 => (5, x.toNat, 12)
  | 20 => (5, x.toNat, 13)
  | 22 => (5, x.toNat, 14)
  | 23 => (6, (x / 7).toNat, (x % 7).toNat)
  | 24 => (0, 0, 5)
  | 25 => (7, x.toNat, 0)
  | 26 => (7, x.toNat, 1)
  | 27 => (33, x.toNat, 1)
  | 28 => (43, (x / 8).toNat, (x % 8).toNat)
  | 29 => (34, x.toNat, 1)
  | 30 => (44, (x / 30).toNat, (x % 30).toNat)
  | 31 => (31, x.toNat, 1)
  | 32 => (41, (x / 30).toNat, (x % 30).toNat)
  | 33 => (30, x.toNat, 1)
  | 34 => (40, (x / 30).toNat, (x % 30).toNat)
  | 35 => (2, x.toNat, 1)
  | 36 => (5, x.toNat, 15)
  | _ => (99, 0, 0)
theorem src_inv {S : SS} {σ i k : Nat} {b : Bool} {K : Nat} {x : Int} (hd : okd S σ i k) (h : src σ i k = some (b, K, x)) : inv K x = (σ, i, k) := by
  unfold src at h
  split at h <;> first
    | (cases h; done)
    | (simp only [Option.some.injEq, Prod.mk.injEq] at h
       obtain ⟨-, rfl, rfl⟩ := h
       simp only [okd] at hd
       simp only [inv, Prod.mk.injEq]
       refine ⟨trivial, ?_, ?_⟩ <;> omega)
    | (simp only [Option.some.injEq, Prod.mk.injEq] at h
       obtain ⟨-, rfl, rfl⟩ := h
       simp only [okd] at hd
       simp only [inv, Prod.mk.injEq, true_and, and_true]
       omega)
theorem toC_ne {S : SS} {K : Nat} {x v : Int} {σ i k : Nat} (h : ∀ b, src σ i k ≠ some (b, K, x)) : toC (u2 S K x v) σ i k = toC S σ i k := by
  unfold toC
  cases hs : src σ i k with
  | none => rfl
  | some q =>
    obtain ⟨b, K', x'⟩ := q
    have hne : ¬ (K' = K ∧ x' = x) := fun e => h b (by rw [hs, e.1, e.2])
    have e : u2 S K x v K' x' = S K' x' := by simp only [u2]; rw [if_neg hne]
    cases b <;> simp only [e]
/-- not one of the counts that say how far a row goes -/
abbrev plainK (K : Nat) : Prop := K ≠ 8 ∧ K ≠ 24 ∧ K ≠ 27 ∧ K ≠ 29 ∧ K ≠ 31 ∧ K ≠ 33
theorem okd_congr {S T : SS} (h8 : T 8 0 = S 8 0) (h24 : T 24 0 = S 24 0) (h27 : ∀ x, T 27 x = S 27 x) (h29 : ∀ x, T 29 x = S 29 x) (h31 : ∀ x, T 31 x = S 31 x) (h33 : ∀ x, T 33 x = S 33 x) (σ i k : Nat) : okd T σ i k = okd S σ i k := by
  simp only [okd, h8, h24, h27, h29, h31, h33]
theorem okd_u2 {S : SS} {K : Nat} (hK : plainK K) (x v : Int) (σ i k : Nat) : okd (u2 S K x v) σ i k = okd S σ i k :=
  okd_congr (u2_ne hK.1.symm _ _ _) (u2_ne hK.2.1.symm _ _ _) (fun _ => u2_ne hK.2.2.1.symm _ _ _) (fun _ => u2_ne hK.2.2.2.1.symm _ _ _) (fun _ => u2_ne hK.2.2.2.2.1.symm _ _ _) (fun _ => u2_ne hK.2.2.2.2.2.symm _ _ _) σ i k
theorem s3_ne {V : Vw} {σ i k σ' i' k' : Nat} {x : AV} (h : ¬ (σ' = σ ∧ i' = i ∧ k' = k)) : s3 V σ i k x σ' i' k' = V σ' i' k' := by simp only [s3]; rw [if_neg h]
theorem RepC.setI {S : SS} {V : Vw} {σ i k : Nat} {K : Nat} {x : Int} (hR : RepC S V) (v : Int) (hs : src σ i k = some (false, K, x)) (hK : plainK K) (hd : okd S σ i k) : RepC (u2 S K x v) (s3 V σ i k (.inl v)) := by
  intro σ' i' k' hd'
  rw [okd_u2 hK] at hd'
  by_cases e : σ' = σ ∧ i' = i ∧ k' = k
  · obtain ⟨rfl, rfl, rfl⟩ := e
    rw [s3_self]
    simp only [toC, hs, u2_self]
  · rw [s3_ne e, hR _ _ _ hd', toC_ne (fun b hb => e ?_)]
    have h1 := src_inv hd' hb
    have h2 := src_inv hd hs
    rw [h1] at h2
    simp only [Prod.mk.injEq] at h2
    exact h2
/-- a place of the state that no cell stands for -/
theorem RepC.free {S : SS} {V : Vw} {K : Nat} {x : Int} (hR : RepC S V) (v : Int) (hK : plainK K) (h : ∀ σ i k b, okd S σ i k → src σ i k ≠ some (b, K, x)) : RepC (u2 S K x v) V := by
  intro σ i k hd
  rw [okd_u2 hK] at hd
  rw [hR _ _ _ hd, toC_ne (fun b => h σ i k b hd)]
theorem RepC.toS {S T : SS} {V : Vw} (hR : RepC S V) (h : ∀ k x, T k x = S k x) : RepC T V := by
  have : T = S := funext fun k => funext fun x => h k x
  rw [this]; exact hR
theorem RepC.pushLine {S : SS} {V : Vw} {i : Nat} (hR : RepC S V) (hi : i < 2) (hn : 0 ≤ S 31 i ∧ S 31 i < 30) (s : Int) : RepC (u2 (u2 S 32 (30 * (i : Int) + S 31 i) s) 31 i (S 31 i + 1)) (s3 (s3 V 41 i (S 31 i).toNat (.inr (some (5, s.toNat)))) 31 i 1 (.inl (S 31 i + 1))) := by
  intro σ j k hd
  by_cases e1 : σ = 31 ∧ j = i ∧ k = 1
  · obtain ⟨rfl, rfl, rfl⟩ := e1
    rw [s3_self]
    simp only [toC, src, u2_self]
  · rw [s3_ne e1]
    by_cases e2 : σ = 41 ∧ j = i ∧ k = (S 31 i).toNat
    · obtain ⟨rfl, rfl, rfl⟩ := e2
      rw [s3_self]
      simp only [toC, src]
      rw [u2_ne (by decide), show ((S 31 j).toNat : Int) = S 31 j by omega, u2_self]
    · rw [s3_ne e2]
      have hd0 : okd S σ j k := by
        by_cases hσ : σ = 41
        · subst hσ
          simp only [okd] at hd ⊢
          have hx : u2 (u2 S 32 (30 * (i : Int) + S 31 i) s) 31 i (S 31 i + 1) 31 j = if (j : Int) = i then S 31 i + 1 else S 31 j := by rw [u2_at, u2_ne (by decide)]
          rw [hx] at hd
          skip
          by_cases hj : (j : Int) = i
          · rw [if_pos hj] at hd
            have hj2 : j = i := by omega
            subst hj2
            refine ⟨hd.1, ?_⟩
            have : k ≠ (S 31 j).toNat := fun q => e2 ⟨rfl, rfl, q⟩
            omega
          · rw [if_neg hj] at hd
            exact hd
        · have := hd
          revert this
          unfold okd
          split <;> first | (exact absurd rfl hσ) | (simp only [u2_ne (show (8 : Nat) ≠ 31 by decide), u2_ne (show (24 : Nat) ≠ 31 by decide), u2_ne (show (8 : Nat) ≠ 32 by decide), u2_ne (show (24 : Nat) ≠ 32 by decide)]; exact id) | (simp only [u2, Nat.reduceEqDiff, false_and, if_false]; exact id) | exact id
      rw [hR _ _ _ hd0, toC_ne (fun b hb => e1 ?_), toC_ne (fun b hb => e2 ?_)]
      · have h1 := src_inv hd0 hb
        simp only [inv, Prod.mk.injEq] at h1
        refine ⟨h1.1.symm, ?_, ?_⟩ <;> omega
      · have h1 := src_inv hd0 hb
        simp only [inv, Prod.mk.injEq] at h1
        refine ⟨h1.1.symm, ?_, h1.2.2.symm⟩
        omega
theorem RepC.pushLane {S : SS} {V : Vw} {i : Nat} (hR : RepC S V) (hi : i < 16) (hn : 0 ≤ S 33 i ∧ S 33 i < 3) (s : Int) : RepC (u2 (u2 S 34 (30 * (i : Int) + S 33 i) s) 33 i (S 33 i + 1)) (s3 (s3 V 40 i (S 33 i).toNat (.inr (some (5, s.toNat)))) 30 i 1 (.inl (S 33 i + 1))) := by
  intro σ j k hd
  by_cases e1 : σ = 30 ∧ j = i ∧ k = 1
  · obtain ⟨rfl, rfl, rfl⟩ := e1
    rw [s3_self]
    simp only [toC, src, u2_self]
  · rw [s3_ne e1]
    by_cases e2 : σ = 40 ∧ j = i ∧ k = (S 33 i).toNat
    · obtain ⟨rfl, rfl, rfl⟩ := e2
      rw [s3_self]
      simp only [toC, src]
      rw [u2_ne (by decide), show ((S 33 j).toNat : Int) = S 33 j by omega, u2_self]
    · rw [s3_ne e2]
      have hd0 : okd S σ j k := by
        by_cases hσ : σ = 40
        · subst hσ
          simp only [okd] at hd ⊢
          have hx : u2 (u2 S 34 (30 * (i : Int) + S 33 i) s) 33 i (S 33 i + 1) 33 j = if (j : Int) = i then S 33 i + 1 else S 33 j := by rw [u2_at, u2_ne (by decide)]
          rw [hx] at hd
          skip
          by_cases hj : (j : Int) = i
          · rw [if_pos hj] at hd
            have hj2 : j = i := by omega
            subst hj2
            refine ⟨hd.1, ?_⟩
            have : k ≠ (S 33 j).toNat := fun q => e2 ⟨rfl, rfl, q⟩
            omega
          · rw [if_neg hj] at hd
            exact hd
        · have := hd
          revert this
          unfold okd
          split <;> first | (exact absurd rfl hσ) | (simp only [u2_ne (show (8 : Nat) ≠ 33 by decide), u2_ne (show (24 : Nat) ≠ 33 by decide), u2_ne (show (8 : Nat) ≠ 34 by decide), u2_ne (show (24 : Nat) ≠ 34 by decide)]; exact id) | (simp only [u2, Nat.reduceEqDiff, false_and, if_false]; exact id) | exact id
      rw [hR _ _ _ hd0, toC_ne (fun b hb => e1 ?_), toC_ne (fun b hb => e2 ?_)]
      · have h1 := src_inv hd0 hb
        simp only [inv, Prod.mk.injEq] at h1
        refine ⟨h1.1.symm, ?_, ?_⟩ <;> omega
      · have h1 := src_inv hd0 hb
        simp only [inv, Prod.mk.injEq] at h1
        refine ⟨h1.1.symm, ?_, h1.2.2.symm⟩
        omega
theorem RepC.pushBook {S : SS} {V : Vw} {i : Nat} (hR : RepC S V) (hi : (i : Int) < S 24 0) (hn : 0 ≤ S 27 i ∧ S 27 i < 8) (s : Int) : RepC (u2 (u2 S 28 (8 * (i : Int) + S 27 i) s) 27 i (S 27 i + 1)) (s3 (s3 V 43 i (S 27 i).toNat (.inr (some (5, s.toNat)))) 33 i 1 (.inl (S 27 i + 1))) := by
  intro σ j k hd
  by_cases e1 : σ = 33 ∧ j = i ∧ k = 1
  · obtain ⟨rfl, rfl, rfl⟩ := e1
    rw [s3_self]
    simp only [toC, src, u2_self]
  · rw [s3_ne e1]
    by_cases e2 : σ = 43 ∧ j = i ∧ k = (S 27 i).toNat
    · obtain ⟨rfl, rfl, rfl⟩ := e2
      rw [s3_self]
      simp only [toC, src]
      rw [u2_ne (by decide), show ((S 27 j).toNat : Int) = S 27 j by omega, u2_self]
    · rw [s3_ne e2]
      have hd0 : okd S σ j k := by
        by_cases hσ : σ = 43
        · subst hσ
          simp only [okd] at hd ⊢
          have hx : u2 (u2 S 28 (8 * (i : Int) + S 27 i) s) 27 i (S 27 i + 1) 27 j = if (j : Int) = i then S 27 i + 1 else S 27 j := by rw [u2_at, u2_ne (by decide)]
          rw [hx] at hd
          simp only [u2_ne (show (24 : Nat) ≠ 27 by decide), u2_ne (show (24 : Nat) ≠ 28 by decide)] at hd
          by_cases hj : (j : Int) = i
          · rw [if_pos hj] at hd
            have hj2 : j = i := by omega
            subst hj2
            refine ⟨hd.1, ?_⟩
            have : k ≠ (S 27 j).toNat := fun q => e2 ⟨rfl, rfl, q⟩
            omega
          · rw [if_neg hj] at hd
            exact hd
        · have := hd
          revert this
          unfold okd
          split <;> first | (exact absurd rfl hσ) | (simp only [u2_ne (show (8 : Nat) ≠ 27 by decide), u2_ne (show (24 : Nat) ≠ 27 by decide), u2_ne (show (8 : Nat) ≠ 28 by decide), u2_ne (show (24 : Nat) ≠ 28 by decide)]; exact id) | (simp only [u2, Nat.reduceEqDiff, false_and, if_false]; exact id) | exact id
      rw [hR _ _ _ hd0, toC_ne (fun b hb => e1 ?_), toC_ne (fun b hb => e2 ?_)]
      · have h1 := src_inv hd0 hb
        simp only [inv, Prod.mk.injEq] at h1
        refine ⟨h1.1.symm, ?_, ?_⟩ <;> omega
      · have h1 := src_inv hd0 hb
        simp only [inv, Prod.mk.injEq] at h1
        refine ⟨h1.1.symm, ?_, h1.2.2.symm⟩
        omega
theorem RepC.pushPut {S : SS} {V : Vw} {i : Nat} (hR : RepC S V) (hi : (i : Int) < S 24 0) (hn : 0 ≤ S 29 i ∧ S 29 i < 30) (s : Int) : RepC (u2 (u2 S 30 (30 * (i : Int) + S 29 i) s) 29 i (S 29 i + 1)) (s3 (s3 V 44 i (S 29 i).toNat (.inr (some (5, s.toNat)))) 34 i 1 (.inl (S 29 i + 1))) := by
  intro σ j k hd
  by_cases e1 : σ = 34 ∧ j = i ∧ k = 1
  · obtain ⟨rfl, rfl, rfl⟩ := e1
    rw [s3_self]
    simp only [toC, src, u2_self]
  · rw [s3_ne e1]
    by_cases e2 : σ = 44 ∧ j = i ∧ k = (S 29 i).toNat
    · obtain ⟨rfl, rfl, rfl⟩ := e2
      rw [s3_self]
      simp only [toC, src]
      rw [u2_ne (by decide), show ((S 29 j).toNat : Int) = S 29 j by omega, u2_self]
    · rw [s3_ne e2]
      have hd0 : okd S σ j k := by
        by_cases hσ : σ = 44
        · subst hσ
          simp only [okd] at hd ⊢
          have hx : u2 (u2 S 30 (30 * (i : Int) + S 29 i) s) 29 i (S 29 i + 1) 29 j = if (j : Int) = i then S 29 i + 1 else S 29 j := by rw [u2_at, u2_ne (by decide)]
          rw [hx] at hd
          simp only [u2_ne (show (24 : Nat) ≠ 29 by decide), u2_ne (show (24 : Nat) ≠ 30 by decide)] at hd
          by_cases hj : (j : Int) = i
          · rw [if_pos hj] at hd
            have hj2 : j = i := by omega
            subst hj2
            refine ⟨hd.1, ?_⟩
            have : k ≠ (S 29 j).toNat := fun q => e2 ⟨rfl, rfl, q⟩
            omega
          · rw [if_neg hj] at hd
            exact hd
        · have := hd
          revert this
          unfold okd
          split <;> first | (exact absurd rfl hσ) | (simp only [u2_ne (show (8 : Nat) ≠ 29 by decide), u2_ne (show (24 : Nat) ≠ 29 by decide), u2_ne (show (8 : Nat) ≠ 30 by decide), u2_ne (show (24 : Nat) ≠ 30 by decide)]; exact id) | (simp only [u2, Nat.reduceEqDiff, false_and, if_false]; exact id) | exact id
      rw [hR _ _ _ hd0, toC_ne (fun b hb => e1 ?_), toC_ne (fun b hb => e2 ?_)]
      · have h1 := src_inv hd0 hb
        simp only [inv, Prod.mk.injEq] at h1
        refine ⟨h1.1.symm, ?_, ?_⟩ <;> omega
      · have h1 := src_inv hd0 hb
        simp only [inv, Prod.mk.injEq] at h1
        refine ⟨h1.1.symm, ?_, h1.2.2.symm⟩
        omega
theorem rc_0_5 {S : SS} {V : Vw} {i : Nat} (hR : RepC S V) : V 0 0 5 = .inl (S 24 0) := hR 0 0 5 ⟨rfl, by decide⟩
theorem rc_0_8 {S : SS} {V : Vw} {i : Nat} (hR : RepC S V) : V 0 0 8 = .inl (S 1 0) := hR 0 0 8 ⟨rfl, by decide⟩
theorem rc_0_9 {S : SS} {V : Vw} {i : Nat} (hR : RepC S V) : V 0 0 9 = .inl (S 2 0) := hR 0 0 9 ⟨rfl, by decide⟩
theorem rc_0_10 {S : SS} {V : Vw} {i : Nat} (hR : RepC S V) : V 0 0 10 = .inl (S 0 0) := hR 0 0 10 ⟨rfl, by decide⟩
theorem rc_1_1 {S : SS} {V : Vw} {i : Nat} (hR : RepC S V) (h : i < 8) : V 1 i 1 = .inl (S 3 i) := hR 1 i 1 ⟨h, by decide⟩
theorem rc_1_2 {S : SS} {V : Vw} {i : Nat} (hR : RepC S V) (h : i < 8) : V 1 i 2 = .inl (S 4 i) := hR 1 i 2 ⟨h, by decide⟩
theorem rc_1_3 {S : SS} {V : Vw} {i : Nat} (hR : RepC S V) (h : i < 8) : V 1 i 3 = .inl (S 5 i) := hR 1 i 3 ⟨h, by decide⟩
theorem rc_2_1 {S : SS} {V : Vw} {i : Nat} (hR : RepC S V) (h : i < 16) : V 2 i 1 = .inl (S 35 i) := hR 2 i 1 ⟨h, by decide⟩
theorem rc_5_1 {S : SS} {V : Vw} {i : Nat} (hR : RepC S V) (h : (i : Int) < S 8 0) : V 5 i 1 = .inl (S 9 i) := hR 5 i 1 ⟨h, by decide⟩
theorem rc_5_2 {S : SS} {V : Vw} {i : Nat} (hR : RepC S V) (h : (i : Int) < S 8 0) : V 5 i 2 = .inl (S 10 i) := hR 5 i 2 ⟨h, by decide⟩
theorem rc_5_3 {S : SS} {V : Vw} {i : Nat} (hR : RepC S V) (h : (i : Int) < S 8 0) : V 5 i 3 = .inl (S 11 i) := hR 5 i 3 ⟨h, by decide⟩
theorem rc_5_4 {S : SS} {V : Vw} {i : Nat} (hR : RepC S V) (h : (i : Int) < S 8 0) : V 5 i 4 = .inl (S 12 i) := hR 5 i 4 ⟨h, by decide⟩
theorem rc_5_5 {S : SS} {V : Vw} {i : Nat} (hR : RepC S V) (h : (i : Int) < S 8 0) : V 5 i 5 = .inl (S 13 i) := hR 5 i 5 ⟨h, by decide⟩
theorem rc_5_6 {S : SS} {V : Vw} {i : Nat} (hR : RepC S V) (h : (i : Int) < S 8 0) : V 5 i 6 = .inl (S 14 i) := hR 5 i 6 ⟨h, by decide⟩
theorem rc_5_8 {S : SS} {V : Vw} {i : Nat} (hR : RepC S V) (h : (i : Int) < S 8 0) : V 5 i 8 = .inl (S 15 i) := hR 5 i 8 ⟨h, by decide⟩
theorem rc_5_9 {S : SS} {V : Vw} {i : Nat} (hR : RepC S V) (h : (i : Int) < S 8 0) : V 5 i 9 = .inl (S 16 i) := hR 5 i 9 ⟨h, by decide⟩
theorem rc_5_10 {S : SS} {V : Vw} {i : Nat} (hR : RepC S V) (h : (i : Int) < S 8 0) : V 5 i 10 = .inl (S 17 i) := hR 5 i 10 ⟨h, by decide⟩
theorem rc_5_11 {S : SS} {V : Vw} {i : Nat} (hR : RepC S V) (h : (i : Int) < S 8 0) : V 5 i 11 = .inl (S 18 i) := hR 5 i 11 ⟨h, by decide⟩
theorem rc_5_12 {S : SS} {V : Vw} {i : Nat} (hR : RepC S V) (h : (i : Int) < S 8 0) : V 5 i 12 = .inl (S 19 i) := hR 5 i 12 ⟨h, by decide⟩
theorem rc_5_13 {S : SS} {V : Vw} {i : Nat} (hR : RepC S V) (h : (i : Int) < S 8 0) : V 5 i 13 = .inl (S 20 i) := hR 5 i 13 ⟨h, by decide⟩
theorem rc_5_14 {S : SS} {V : Vw} {i : Nat} (hR : RepC S V) (h : (i : Int) < S 8 0) : V 5 i 14 = .inl (S 22 i) := hR 5 i 14 ⟨h, by decide⟩
theorem rc_5_15 {S : SS} {V : Vw} {i : Nat} (hR : RepC S V) (h : (i : Int) < S 8 0) : V 5 i 15 = .inl (S 36 i) := hR 5 i 15 ⟨h, by decide⟩
theorem rc_7_0 {S : SS} {V : Vw} {i : Nat} (hR : RepC S V) (h : (i : Int) < S 24 0) : V 7 i 0 = .inl (S 25 i) := hR 7 i 0 ⟨h, by decide⟩
theorem rc_7_1 {S : SS} {V : Vw} {i : Nat} (hR : RepC S V) (h : (i : Int) < S 24 0) : V 7 i 1 = .inl (S 26 i) := hR 7 i 1 ⟨h, by decide⟩
theorem rc_30_1 {S : SS} {V : Vw} {i : Nat} (hR : RepC S V) (h : i < 16) : V 30 i 1 = .inl (S 33 i) := hR 30 i 1 ⟨h, by decide⟩
theorem rc_31_1 {S : SS} {V : Vw} {i : Nat} (hR : RepC S V) (h : i < 2) : V 31 i 1 = .inl (S 31 i) := hR 31 i 1 ⟨h, by decide⟩
theorem rc_32_1 {S : SS} {V : Vw} {i : Nat} (hR : RepC S V) : V 32 0 1 = .inl (S 8 0) := hR 32 0 1 ⟨rfl, by decide⟩
theorem rc_33_1 {S : SS} {V : Vw} {i : Nat} (hR : RepC S V) (h : (i : Int) < S 24 0) : V 33 i 1 = .inl (S 27 i) := hR 33 i 1 ⟨h, by decide⟩
theorem rc_34_1 {S : SS} {V : Vw} {i : Nat} (hR : RepC S V) (h : (i : Int) < S 24 0) : V 34 i 1 = .inl (S 29 i) := hR 34 i 1 ⟨h, by decide⟩
theorem rc_0_0 {S : SS} {V : Vw} {i : Nat} (hR : RepC S V) : V 0 0 0 = .inr (some (8, 0)) := hR 0 0 0 ⟨rfl, by decide⟩
theorem rc_0_1 {S : SS} {V : Vw} {i : Nat} (hR : RepC S V) : V 0 0 1 = .inr (some (9, 0)) := hR 0 0 1 ⟨rfl, by decide⟩
theorem rc_0_2 {S : SS} {V : Vw} {i : Nat} (hR : RepC S V) : V 0 0 2 = .inr (some (10, 0)) := hR 0 0 2 ⟨rfl, by decide⟩
theorem rc_0_3 {S : SS} {V : Vw} {i : Nat} (hR : RepC S V) : V 0 0 3 = .inr (some (32, 0)) := hR 0 0 3 ⟨rfl, by decide⟩
theorem rc_0_4 {S : SS} {V : Vw} {i : Nat} (hR : RepC S V) : V 0 0 4 = .inr (some (11, 0)) := hR 0 0 4 ⟨rfl, by decide⟩
theorem rc_0_6 {S : SS} {V : Vw} {i : Nat} (hR : RepC S V) : V 0 0 6 = .inr (some (31, 0)) := hR 0 0 6 ⟨rfl, by decide⟩
theorem rc_0_7 {S : SS} {V : Vw} {i : Nat} (hR : RepC S V) : V 0 0 7 = .inr (some (31, 1)) := hR 0 0 7 ⟨rfl, by decide⟩
theorem rc_1_4 {S : SS} {V : Vw} {i : Nat} (hR : RepC S V) (h : i < 8) : V 1 i 4 = .inr (some (2, 2 * i)) := hR 1 i 4 ⟨h, by decide⟩
theorem rc_1_5 {S : SS} {V : Vw} {i : Nat} (hR : RepC S V) (h : i < 8) : V 1 i 5 = .inr (some (2, 2 * i + 1)) := hR 1 i 5 ⟨h, by decide⟩
theorem rc_2_0 {S : SS} {V : Vw} {i : Nat} (hR : RepC S V) (h : i < 16) : V 2 i 0 = .inr (some (30, i)) := hR 2 i 0 ⟨h, by decide⟩
theorem rc_5_7 {S : SS} {V : Vw} {i : Nat} (hR : RepC S V) (h : (i : Int) < S 8 0) : V 5 i 7 = .inr (some (6, i)) := hR 5 i 7 ⟨h, by decide⟩
theorem rc_7_2 {S : SS} {V : Vw} {i : Nat} (hR : RepC S V) (h : (i : Int) < S 24 0) : V 7 i 2 = .inr (some (33, i)) := hR 7 i 2 ⟨h, by decide⟩
theorem rc_7_3 {S : SS} {V : Vw} {i : Nat} (hR : RepC S V) (h : (i : Int) < S 24 0) : V 7 i 3 = .inr (some (34, i)) := hR 7 i 3 ⟨h, by decide⟩
theorem rc_30_0 {S : SS} {V : Vw} {i : Nat} (hR : RepC S V) (h : i < 16) : V 30 i 0 = .inr (some (40, i)) := hR 30 i 0 ⟨h, by decide⟩
theorem rc_31_0 {S : SS} {V : Vw} {i : Nat} (hR : RepC S V) (h : i < 2) : V 31 i 0 = .inr (some (41, i)) := hR 31 i 0 ⟨h, by decide⟩
theorem rc_32_0 {S : SS} {V : Vw} {i : Nat} (hR : RepC S V) : V 32 0 0 = .inr (some (42, 0)) := hR 32 0 0 ⟨rfl, by decide⟩
theorem rc_33_0 {S : SS} {V : Vw} {i : Nat} (hR : RepC S V) (h : (i : Int) < S 24 0) : V 33 i 0 = .inr (some (43, i)) := hR 33 i 0 ⟨h, by decide⟩
theorem rc_34_0 {S : SS} {V : Vw} {i : Nat} (hR : RepC S V) (h : (i : Int) < S 24 0) : V 34 i 0 = .inr (some (44, i)) := hR 34 i 0 ⟨h, by decide⟩
theorem rc_1_0 {S : SS} {V : Vw} {i : Nat} (hR : RepC S V) (h : i < 8) : V 1 i 0 = .inl (i : Int) := hR 1 i 0 ⟨h, by decide⟩
theorem rc_5_0 {S : SS} {V : Vw} {i : Nat} (hR : RepC S V) (h : (i : Int) < S 8 0) : V 5 i 0 = .inl (i : Int) := hR 5 i 0 ⟨h, by decide⟩
theorem rc_8 {S : SS} {V : Vw} {k : Nat} (hR : RepC S V) (h : k < 8) : V 8 0 k = .inr (some (1, k)) := hR 8 0 k ⟨rfl, h⟩
theorem rc_9 {S : SS} {V : Vw} {k : Nat} (hR : RepC S V) (h : k < 24) : V 9 0 k = .inl (S 6 k) := hR 9 0 k ⟨rfl, h⟩
theorem rc_10 {S : SS} {V : Vw} {k : Nat} (hR : RepC S V) (h : k < 24) : V 10 0 k = .inl (S 7 k) := hR 10 0 k ⟨rfl, h⟩
theorem rc_11 {S : SS} {V : Vw} {k : Nat} (hR : RepC S V) (h : (k : Int) < S 24 0) : V 11 0 k = .inr (some (7, k)) := hR 11 0 k ⟨rfl, h⟩
theorem rc_6 {S : SS} {V : Vw} {i k : Nat} (hR : RepC S V) (h : (i : Int) < S 8 0) (hk : k < 7) : V 6 i k = .inl (S 23 (7 * (i : Int) + k)) := hR 6 i k ⟨h, hk⟩
theorem rc_40 {S : SS} {V : Vw} {i k : Nat} (hR : RepC S V) (h : i < 16) (h3 : k < 3) (hk : (k : Int) < S 33 i) : V 40 i k = .inr (some (5, (S 34 (30 * (i : Int) + k)).toNat)) := hR 40 i k ⟨⟨h, h3⟩, hk⟩
theorem rc_41 {S : SS} {V : Vw} {i k : Nat} (hR : RepC S V) (h : i < 2) (h3 : k < 30) (hk : (k : Int) < S 31 i) : V 41 i k = .inr (some (5, (S 32 (30 * (i : Int) + k)).toNat)) := hR 41 i k ⟨⟨h, h3⟩, hk⟩
theorem rc_42 {S : SS} {V : Vw} {k : Nat} (hR : RepC S V) (h3 : k < 30) (hk : (k : Int) < S 8 0) : V 42 0 k = .inr (some (5, k)) := hR 42 0 k ⟨⟨rfl, h3⟩, hk⟩
theorem rc_43 {S : SS} {V : Vw} {i k : Nat} (hR : RepC S V) (h : (i : Int) < S 24 0) (h3 : k < 8) (hk : (k : Int) < S 27 i) : V 43 i k = .inr (some (5, (S 28 (8 * (i : Int) + k)).toNat)) := hR 43 i k ⟨⟨h, h3⟩, hk⟩
theorem rc_44 {S : SS} {V : Vw} {i k : Nat} (hR : RepC S V) (h : (i : Int) < S 24 0) (h3 : k < 30) (hk : (k : Int) < S 29 i) : V 44 i k = .inr (some (5, (S 30 (30 * (i : Int) + k)).toNat)) := hR 44 i k ⟨⟨h, h3⟩, hk⟩
end
