section
-- ===== PART A: goes FIRST, ahead of the names: the tables' words, and 'selects' of the private methods out of them =====
/-- a private method of a class that the tables say can be made, by its rows of tables_1 -/
def lw_okq (q : MethodName × Nat) : Prop := (q.1.cls ≠ "java/lang/invoke/MethodHandle" ∧ q.1.cls ≠ "java/lang/invoke/VarHandle") ∧ Cond.instantiable q.1.cls q.2 ∈ tables_1 ∧ Cond.privateMethod q.1 ∈ tables_1 ∧ Cond.instanceMethod q.1 ∈ tables_1
theorem lw_p0 : lw_okq (⟨"BoatSets", "isSet", "(I)Z"⟩, 6) := ⟨⟨by decide +kernel, by decide +kernel⟩, List.mem_of_getElem? (i := 12) (by decide +kernel), List.mem_of_getElem? (i := 187) (by decide +kernel), List.mem_of_getElem? (i := 188) (by decide +kernel)⟩
theorem lw_p1 : lw_okq (⟨"BoatSets", "moveRange", "(IIIZ)I"⟩, 6) := ⟨⟨by decide +kernel, by decide +kernel⟩, List.mem_of_getElem? (i := 12) (by decide +kernel), List.mem_of_getElem? (i := 235) (by decide +kernel), List.mem_of_getElem? (i := 236) (by decide +kernel)⟩
theorem lw_p2 : lw_okq (⟨"BoatSets", "settleTrial", "(II)I"⟩, 6) := ⟨⟨by decide +kernel, by decide +kernel⟩, List.mem_of_getElem? (i := 12) (by decide +kernel), List.mem_of_getElem? (i := 270) (by decide +kernel), List.mem_of_getElem? (i := 271) (by decide +kernel)⟩
theorem lw_p3 : lw_okq (⟨"BoatSetsModel", "records", "([I)V"⟩, 13) := ⟨⟨by decide +kernel, by decide +kernel⟩, List.mem_of_getElem? (i := 492) (by decide +kernel), List.mem_of_getElem? (i := 545) (by decide +kernel), List.mem_of_getElem? (i := 546) (by decide +kernel)⟩
theorem lw_p4 : lw_okq (⟨"BoatSetsModel", "lays", "(III)V"⟩, 13) := ⟨⟨by decide +kernel, by decide +kernel⟩, List.mem_of_getElem? (i := 492) (by decide +kernel), List.mem_of_getElem? (i := 552) (by decide +kernel), List.mem_of_getElem? (i := 553) (by decide +kernel)⟩
theorem lw_p5 : lw_okq (⟨"BoatSetsModel", "isSet", "(I)Z"⟩, 13) := ⟨⟨by decide +kernel, by decide +kernel⟩, List.mem_of_getElem? (i := 492) (by decide +kernel), List.mem_of_getElem? (i := 560) (by decide +kernel), List.mem_of_getElem? (i := 561) (by decide +kernel)⟩
theorem lw_p6 : lw_okq (⟨"BoatSetsModel", "of", "(II)I"⟩, 13) := ⟨⟨by decide +kernel, by decide +kernel⟩, List.mem_of_getElem? (i := 492) (by decide +kernel), List.mem_of_getElem? (i := 564) (by decide +kernel), List.mem_of_getElem? (i := 565) (by decide +kernel)⟩
theorem lw_p7 : lw_okq (⟨"BoatSetsModel", "boatsOf", "(I)I"⟩, 13) := ⟨⟨by decide +kernel, by decide +kernel⟩, List.mem_of_getElem? (i := 492) (by decide +kernel), List.mem_of_getElem? (i := 572) (by decide +kernel), List.mem_of_getElem? (i := 573) (by decide +kernel)⟩
theorem lw_p8 : lw_okq (⟨"BoatSetsModel", "kindOf", "(II)I"⟩, 13) := ⟨⟨by decide +kernel, by decide +kernel⟩, List.mem_of_getElem? (i := 492) (by decide +kernel), List.mem_of_getElem? (i := 576) (by decide +kernel), List.mem_of_getElem? (i := 577) (by decide +kernel)⟩
theorem lw_p9 : lw_okq (⟨"BoatSetsModel", "docks", "(I)I"⟩, 13) := ⟨⟨by decide +kernel, by decide +kernel⟩, List.mem_of_getElem? (i := 492) (by decide +kernel), List.mem_of_getElem? (i := 584) (by decide +kernel), List.mem_of_getElem? (i := 585) (by decide +kernel)⟩
theorem lw_p10 : lw_okq (⟨"BoatSetsModel", "nextToDock", "(I)I"⟩, 13) := ⟨⟨by decide +kernel, by decide +kernel⟩, List.mem_of_getElem? (i := 492) (by decide +kernel), List.mem_of_getElem? (i := 588) (by decide +kernel), List.mem_of_getElem? (i := 589) (by decide +kernel)⟩
theorem lw_p11 : lw_okq (⟨"BoatSetsModel", "tollOf", "(II)I"⟩, 13) := ⟨⟨by decide +kernel, by decide +kernel⟩, List.mem_of_getElem? (i := 492) (by decide +kernel), List.mem_of_getElem? (i := 592) (by decide +kernel), List.mem_of_getElem? (i := 593) (by decide +kernel)⟩
theorem lw_p12 : lw_okq (⟨"BoatSetsModel", "bestOf", "(II)I"⟩, 13) := ⟨⟨by decide +kernel, by decide +kernel⟩, List.mem_of_getElem? (i := 492) (by decide +kernel), List.mem_of_getElem? (i := 596) (by decide +kernel), List.mem_of_getElem? (i := 597) (by decide +kernel)⟩
theorem lw_p13 : lw_okq (⟨"BoatSetsModel", "manyIn", "(II)I"⟩, 13) := ⟨⟨by decide +kernel, by decide +kernel⟩, List.mem_of_getElem? (i := 492) (by decide +kernel), List.mem_of_getElem? (i := 600) (by decide +kernel), List.mem_of_getElem? (i := 601) (by decide +kernel)⟩
theorem lw_p14 : lw_okq (⟨"BoatSetsModel", "isIn", "(II)Z"⟩, 13) := ⟨⟨by decide +kernel, by decide +kernel⟩, List.mem_of_getElem? (i := 492) (by decide +kernel), List.mem_of_getElem? (i := 604) (by decide +kernel), List.mem_of_getElem? (i := 605) (by decide +kernel)⟩
theorem lw_p15 : lw_okq (⟨"BoatSetsModel", "runsIn", "(II)I"⟩, 13) := ⟨⟨by decide +kernel, by decide +kernel⟩, List.mem_of_getElem? (i := 492) (by decide +kernel), List.mem_of_getElem? (i := 608) (by decide +kernel), List.mem_of_getElem? (i := 609) (by decide +kernel)⟩
def lw_privs_1 : List (MethodName × Nat) := [(⟨"BoatSets", "isSet", "(I)Z"⟩, 6), (⟨"BoatSets", "moveRange", "(IIIZ)I"⟩, 6), (⟨"BoatSets", "settleTrial", "(II)I"⟩, 6), (⟨"BoatSetsModel", "records", "([I)V"⟩, 13), (⟨"BoatSetsModel", "lays", "(III)V"⟩, 13), (⟨"BoatSetsModel", "isSet", "(I)Z"⟩, 13), (⟨"BoatSetsModel", "of", "(II)I"⟩, 13), (⟨"BoatSetsModel", "boatsOf", "(I)I"⟩, 13), (⟨"BoatSetsModel", "kindOf", "(II)I"⟩, 13), (⟨"BoatSetsModel", "docks", "(I)I"⟩, 13), (⟨"BoatSetsModel", "nextToDock", "(I)I"⟩, 13), (⟨"BoatSetsModel", "tollOf", "(II)I"⟩, 13), (⟨"BoatSetsModel", "bestOf", "(II)I"⟩, 13), (⟨"BoatSetsModel", "manyIn", "(II)I"⟩, 13), (⟨"BoatSetsModel", "isIn", "(II)Z"⟩, 13), (⟨"BoatSetsModel", "runsIn", "(II)I"⟩, 13)]
theorem lw_r1 : ∀ q ∈ lw_privs_1, lw_okq q := List.forall_mem_cons.mpr ⟨lw_p0, List.forall_mem_cons.mpr ⟨lw_p1, List.forall_mem_cons.mpr ⟨lw_p2, List.forall_mem_cons.mpr ⟨lw_p3, List.forall_mem_cons.mpr ⟨lw_p4, List.forall_mem_cons.mpr ⟨lw_p5, List.forall_mem_cons.mpr ⟨lw_p6, List.forall_mem_cons.mpr ⟨lw_p7, List.forall_mem_cons.mpr ⟨lw_p8, List.forall_mem_cons.mpr ⟨lw_p9, List.forall_mem_cons.mpr ⟨lw_p10, List.forall_mem_cons.mpr ⟨lw_p11, List.forall_mem_cons.mpr ⟨lw_p12, List.forall_mem_cons.mpr ⟨lw_p13, List.forall_mem_cons.mpr ⟨lw_p14, List.forall_mem_cons.mpr ⟨lw_p15, fun _ h => absurd h List.not_mem_nil⟩⟩⟩⟩⟩⟩⟩⟩⟩⟩⟩⟩⟩⟩⟩⟩
theorem lw_p16 : lw_okq (⟨"BoatSetsModel", "unitsOf", "(II)I"⟩, 13) := ⟨⟨by decide +kernel, by decide +kernel⟩, List.mem_of_getElem? (i := 492) (by decide +kernel), List.mem_of_getElem? (i := 621) (by decide +kernel), List.mem_of_getElem? (i := 622) (by decide +kernel)⟩
theorem lw_p17 : lw_okq (⟨"BoatSetsModel", "becomes", "(II)V"⟩, 13) := ⟨⟨by decide +kernel, by decide +kernel⟩, List.mem_of_getElem? (i := 492) (by decide +kernel), List.mem_of_getElem? (i := 625) (by decide +kernel), List.mem_of_getElem? (i := 626) (by decide +kernel)⟩
theorem lw_p18 : lw_okq (⟨"BoatSetsModel", "goes", "(IIZ)Z"⟩, 13) := ⟨⟨by decide +kernel, by decide +kernel⟩, List.mem_of_getElem? (i := 492) (by decide +kernel), List.mem_of_getElem? (i := 636) (by decide +kernel), List.mem_of_getElem? (i := 637) (by decide +kernel)⟩
theorem lw_p19 : lw_okq (⟨"BoatSetsModel", "puts", "(IIZ)V"⟩, 13) := ⟨⟨by decide +kernel, by decide +kernel⟩, List.mem_of_getElem? (i := 492) (by decide +kernel), List.mem_of_getElem? (i := 640) (by decide +kernel), List.mem_of_getElem? (i := 641) (by decide +kernel)⟩
theorem lw_p20 : lw_okq (⟨"BoatSetsModel", "ranges", "(IIIZ)I"⟩, 13) := ⟨⟨by decide +kernel, by decide +kernel⟩, List.mem_of_getElem? (i := 492) (by decide +kernel), List.mem_of_getElem? (i := 652) (by decide +kernel), List.mem_of_getElem? (i := 653) (by decide +kernel)⟩
theorem lw_p21 : lw_okq (⟨"BoatSetsModel", "goesAll", "(IIIZ)I"⟩, 13) := ⟨⟨by decide +kernel, by decide +kernel⟩, List.mem_of_getElem? (i := 492) (by decide +kernel), List.mem_of_getElem? (i := 656) (by decide +kernel), List.mem_of_getElem? (i := 657) (by decide +kernel)⟩
theorem lw_p22 : lw_okq (⟨"BoatSetsModel", "ends", "(I)I"⟩, 13) := ⟨⟨by decide +kernel, by decide +kernel⟩, List.mem_of_getElem? (i := 492) (by decide +kernel), List.mem_of_getElem? (i := 660) (by decide +kernel), List.mem_of_getElem? (i := 661) (by decide +kernel)⟩
theorem lw_p23 : lw_okq (⟨"BoatSetsModel", "laysGiven", "(III)I"⟩, 13) := ⟨⟨by decide +kernel, by decide +kernel⟩, List.mem_of_getElem? (i := 492) (by decide +kernel), List.mem_of_getElem? (i := 672) (by decide +kernel), List.mem_of_getElem? (i := 673) (by decide +kernel)⟩
theorem lw_p24 : lw_okq (⟨"BoatSetsModel", "faultOf", "()I"⟩, 13) := ⟨⟨by decide +kernel, by decide +kernel⟩, List.mem_of_getElem? (i := 492) (by decide +kernel), List.mem_of_getElem? (i := 691) (by decide +kernel), List.mem_of_getElem? (i := 692) (by decide +kernel)⟩
theorem lw_p25 : lw_okq (⟨"BoatSetsModel", "readsNumber", "()I"⟩, 13) := ⟨⟨by decide +kernel, by decide +kernel⟩, List.mem_of_getElem? (i := 492) (by decide +kernel), List.mem_of_getElem? (i := 695) (by decide +kernel), List.mem_of_getElem? (i := 696) (by decide +kernel)⟩
theorem lw_p26 : lw_okq (⟨"BoatSetsModel", "signAt", "(I)I"⟩, 13) := ⟨⟨by decide +kernel, by decide +kernel⟩, List.mem_of_getElem? (i := 492) (by decide +kernel), List.mem_of_getElem? (i := 699) (by decide +kernel), List.mem_of_getElem? (i := 700) (by decide +kernel)⟩
theorem lw_p27 : lw_okq (⟨"BoatSetsModel", "rankOf", "(II)I"⟩, 13) := ⟨⟨by decide +kernel, by decide +kernel⟩, List.mem_of_getElem? (i := 492) (by decide +kernel), List.mem_of_getElem? (i := 723) (by decide +kernel), List.mem_of_getElem? (i := 724) (by decide +kernel)⟩
theorem lw_p28 : lw_okq (⟨"BoatSetsModel", "sumOf", "(II)I"⟩, 13) := ⟨⟨by decide +kernel, by decide +kernel⟩, List.mem_of_getElem? (i := 492) (by decide +kernel), List.mem_of_getElem? (i := 727) (by decide +kernel), List.mem_of_getElem? (i := 728) (by decide +kernel)⟩
theorem lw_p29 : lw_okq (⟨"BoatSetsModel", "firstFrom", "(III)I"⟩, 13) := ⟨⟨by decide +kernel, by decide +kernel⟩, List.mem_of_getElem? (i := 492) (by decide +kernel), List.mem_of_getElem? (i := 731) (by decide +kernel), List.mem_of_getElem? (i := 732) (by decide +kernel)⟩
theorem lw_p30 : lw_okq (⟨"BoatSetsModel", "setsWith", "(I)I"⟩, 13) := ⟨⟨by decide +kernel, by decide +kernel⟩, List.mem_of_getElem? (i := 492) (by decide +kernel), List.mem_of_getElem? (i := 767) (by decide +kernel), List.mem_of_getElem? (i := 768) (by decide +kernel)⟩
theorem lw_p31 : lw_okq (⟨"BoatSetsModel", "overAll", "(I)I"⟩, 13) := ⟨⟨by decide +kernel, by decide +kernel⟩, List.mem_of_getElem? (i := 492) (by decide +kernel), List.mem_of_getElem? (i := 783) (by decide +kernel), List.mem_of_getElem? (i := 784) (by decide +kernel)⟩
def lw_privs_2 : List (MethodName × Nat) := [(⟨"BoatSetsModel", "unitsOf", "(II)I"⟩, 13), (⟨"BoatSetsModel", "becomes", "(II)V"⟩, 13), (⟨"BoatSetsModel", "goes", "(IIZ)Z"⟩, 13), (⟨"BoatSetsModel", "puts", "(IIZ)V"⟩, 13), (⟨"BoatSetsModel", "ranges", "(IIIZ)I"⟩, 13), (⟨"BoatSetsModel", "goesAll", "(IIIZ)I"⟩, 13), (⟨"BoatSetsModel", "ends", "(I)I"⟩, 13), (⟨"BoatSetsModel", "laysGiven", "(III)I"⟩, 13), (⟨"BoatSetsModel", "faultOf", "()I"⟩, 13), (⟨"BoatSetsModel", "readsNumber", "()I"⟩, 13), (⟨"BoatSetsModel", "signAt", "(I)I"⟩, 13), (⟨"BoatSetsModel", "rankOf", "(II)I"⟩, 13), (⟨"BoatSetsModel", "sumOf", "(II)I"⟩, 13), (⟨"BoatSetsModel", "firstFrom", "(III)I"⟩, 13), (⟨"BoatSetsModel", "setsWith", "(I)I"⟩, 13), (⟨"BoatSetsModel", "overAll", "(I)I"⟩, 13)]
theorem lw_r2 : ∀ q ∈ lw_privs_2, lw_okq q := List.forall_mem_cons.mpr ⟨lw_p16, List.forall_mem_cons.mpr ⟨lw_p17, List.forall_mem_cons.mpr ⟨lw_p18, List.forall_mem_cons.mpr ⟨lw_p19, List.forall_mem_cons.mpr ⟨lw_p20, List.forall_mem_cons.mpr ⟨lw_p21, List.forall_mem_cons.mpr ⟨lw_p22, List.forall_mem_cons.mpr ⟨lw_p23, List.forall_mem_cons.mpr ⟨lw_p24, List.forall_mem_cons.mpr ⟨lw_p25, List.forall_mem_cons.mpr ⟨lw_p26, List.forall_mem_cons.mpr ⟨lw_p27, List.forall_mem_cons.mpr ⟨lw_p28, List.forall_mem_cons.mpr ⟨lw_p29, List.forall_mem_cons.mpr ⟨lw_p30, List.forall_mem_cons.mpr ⟨lw_p31, fun _ h => absurd h List.not_mem_nil⟩⟩⟩⟩⟩⟩⟩⟩⟩⟩⟩⟩⟩⟩⟩⟩
theorem lw_p32 : lw_okq (⟨"BoatSetsModel", "different", "()I"⟩, 13) := ⟨⟨by decide +kernel, by decide +kernel⟩, List.mem_of_getElem? (i := 492) (by decide +kernel), List.mem_of_getElem? (i := 788) (by decide +kernel), List.mem_of_getElem? (i := 789) (by decide +kernel)⟩
def lw_privs_3 : List (MethodName × Nat) := [(⟨"BoatSetsModel", "different", "()I"⟩, 13)]
theorem lw_r3 : ∀ q ∈ lw_privs_3, lw_okq q := List.forall_mem_cons.mpr ⟨lw_p32, fun _ h => absurd h List.not_mem_nil⟩
def lw_privs : List (MethodName × Nat) := lw_privs_1 ++ (lw_privs_2 ++ (lw_privs_3))
def lw_tbl : List Cond := k2_sels lw_privs ++ tables_1
theorem lw_privs_ok : ∀ q ∈ lw_privs, lw_okq q := by
  show ∀ q ∈ lw_privs_1 ++ (lw_privs_2 ++ (lw_privs_3)), lw_okq q
  exact List.forall_mem_append.mpr ⟨lw_r1, List.forall_mem_append.mpr ⟨lw_r2, lw_r3⟩⟩
-- ===== end of PART A; then your names; then what follows =====
end
section
/-! ===== BEGIN words of one list among another's, by their places ===== -/
theorem goodIn_r {big : List Cond} (ws : List Cond) (ps : List Nat) (hp : ws = ps.filterMap (fun i => big[i]?)) (h : ws.all goodWord = true) : GoodIn big ws := by
  intro w hw
  have h1 := List.all_eq_true.mp h w hw
  rw [hp] at hw
  obtain ⟨i, -, hi⟩ := List.mem_filterMap.mp hw
  have hm : w ∈ big := by first | exact List.mem_of_getElem? hi | exact List.getElem?_mem hi
  exact ⟨hm, good_of_word h1⟩
theorem goodIn_app {big a b : List Cond} (ha : GoodIn big a) (hb : GoodIn big b) : GoodIn big (a ++ b) := fun w h => (List.mem_append.mp h).elim (ha w) (hb w)
theorem goodIn_ca {big a b : List Cond} {c : Cond} (ha : GoodIn big (c :: a)) (hb : GoodIn big b) : GoodIn big (c :: (a ++ b)) := fun w h => (List.mem_cons.mp h).elim (fun e => ha w (List.mem_cons.mpr (Or.inl e))) (fun h => (List.mem_append.mp h).elim (fun h => ha w (List.mem_cons.mpr (Or.inr h))) (hb w))
theorem goodIn_sub {big ws : List Cond} (hm : ∀ w ∈ ws, w ∈ big) (h : ws.all goodWord = true) : GoodIn big ws := fun w hw => ⟨hm w hw, good_of_word (List.all_eq_true.mp h w hw)⟩
/-! ===== END ===== -/

/-! ===== BEGIN printed: names, fields, word lists, decode rows ===== -/
def RX0 : String := "BoatSets$Fleet"
def TX0 : u_T := fun k => match k with
  | 0 => ("BoatSets$Fleet", "words", "[J", true)
  | 1 => ("BoatSets$Fleet", "kinds", "[I", true)
  | 2 => ("BoatSets$Fleet", "sizes", "[I", true)
  | 3 => ("BoatSets$Fleet", "runs", "[I", true)
  | 4 => ("BoatSets$Fleet", "purse", "I", false)
  | 5 => ("BoatSets$Fleet", "paid", "I", false)
  | _ => ("BoatSets$Fleet", "atSea", "Z", false)
def tyX0 : Nat → FieldType := fun k => match k with
  | 0 => .array .long
  | 1 => .array .int
  | 2 => .array .int
  | 3 => .array .int
  | 4 => .int
  | 5 => .int
  | _ => .boolean
abbrev wsX00 : List Cond := u_ws RX0 TX0 7
theorem nmX0 : ∀ a, a < 7 → ∀ b, b < 7 → a ≠ b → (TX0 a).2.1 ≠ (TX0 b).2.1 := by decide +kernel
theorem tyX0_ok : ∀ k, k < 7 → parseFieldDescriptor (TX0 k).2.2.1 = some (tyX0 k) := by decide +kernel
abbrev cX0_init : ByteArray := prog_2_method_1_code
def yX0_init : MethodName := ⟨RX0, "<init>", "()V"⟩
abbrev cX0_begin : ByteArray := prog_2_method_2_code
def yX0_begin : MethodName := ⟨RX0, "begin", "(I)V"⟩
abbrev cX0_clearNumbers : ByteArray := prog_2_method_3_code
def yX0_clearNumbers : MethodName := ⟨RX0, "clearNumbers", "()V"⟩
abbrev cX0_copyFrom : ByteArray := prog_2_method_4_code
def yX0_copyFrom : MethodName := ⟨RX0, "copyFrom", "(LBoatSets$Fleet;)V"⟩
abbrev cX0_holds : ByteArray := prog_2_method_5_code
def yX0_holds : MethodName := ⟨RX0, "holds", "(I)Z"⟩
abbrev cX0_flip : ByteArray := prog_2_method_6_code
def yX0_flip : MethodName := ⟨RX0, "flip", "(I)V"⟩
abbrev cX0_neighboursInBay : ByteArray := prog_2_method_7_code
def yX0_neighboursInBay : MethodName := ⟨RX0, "neighboursInBay", "(I)I"⟩
abbrev cX0_move : ByteArray := prog_2_method_8_code
def yX0_move : MethodName := ⟨RX0, "move", "(IIZ)I"⟩
abbrev cX0_adaptBoat : ByteArray := prog_2_method_9_code
def yX0_adaptBoat : MethodName := ⟨RX0, "adaptBoat", "(I)Z"⟩
abbrev cX0_becomeBest : ByteArray := prog_2_method_10_code
def yX0_becomeBest : MethodName := ⟨RX0, "becomeBest", "(I)I"⟩
abbrev cX0_enterHarbour : ByteArray := prog_2_method_11_code
def yX0_enterHarbour : MethodName := ⟨RX0, "enterHarbour", "()I"⟩
abbrev cX0_baySavingMost : ByteArray := prog_2_method_12_code
def yX0_baySavingMost : MethodName := ⟨RX0, "baySavingMost", "(I)I"⟩
abbrev cX0_canHold : ByteArray := prog_2_method_13_code
def yX0_canHold : MethodName := ⟨RX0, "canHold", "(II)Z"⟩
abbrev cX0_unitsAs : ByteArray := prog_2_method_14_code
def yX0_unitsAs : MethodName := ⟨RX0, "unitsAs", "(II)I"⟩
abbrev cX0_bestKind : ByteArray := prog_2_method_15_code
def yX0_bestKind : MethodName := ⟨RX0, "bestKind", "(I)I"⟩
abbrev cX0_tollToBest : ByteArray := prog_2_method_16_code
def yX0_tollToBest : MethodName := ⟨RX0, "tollToBest", "(I)I"⟩
abbrev cX0_fillWith : ByteArray := prog_2_method_17_code
def yX0_fillWith : MethodName := ⟨RX0, "fillWith", "(ILBoatSets$Fleet;LBoatSets$Fleet;)V"⟩
abbrev cX0_numbers : ByteArray := prog_2_method_18_code
def yX0_numbers : MethodName := ⟨RX0, "numbers", "()I"⟩
abbrev cX0_boats : ByteArray := prog_2_method_19_code
def yX0_boats : MethodName := ⟨RX0, "boats", "()I"⟩
abbrev cX0_boatsOfKind : ByteArray := prog_2_method_20_code
def yX0_boatsOfKind : MethodName := ⟨RX0, "boatsOfKind", "(I)I"⟩
abbrev cX0_units : ByteArray := prog_2_method_21_code
def yX0_units : MethodName := ⟨RX0, "units", "()I"⟩
abbrev cX0_bestUnits : ByteArray := prog_2_method_22_code
def yX0_bestUnits : MethodName := ⟨RX0, "bestUnits", "()I"⟩
abbrev cX0_allRuns : ByteArray := prog_2_method_23_code
def yX0_allRuns : MethodName := ⟨RX0, "allRuns", "()I"⟩
abbrev cX0_numbersBelow : ByteArray := prog_2_method_24_code
def yX0_numbersBelow : MethodName := ⟨RX0, "numbersBelow", "(I)I"⟩
abbrev cX0_numberAt : ByteArray := prog_2_method_25_code
def yX0_numberAt : MethodName := ⟨RX0, "numberAt", "(I)I"⟩
abbrev cX0_placeOfBit : ByteArray := prog_2_method_26_code
def yX0_placeOfBit : MethodName := ⟨RX0, "placeOfBit", "(JI)I"⟩
abbrev cX0_firstFrom : ByteArray := prog_2_method_27_code
def yX0_firstFrom : MethodName := ⟨RX0, "firstFrom", "(I)I"⟩
abbrev cX0_firstGap : ByteArray := prog_2_method_28_code
def yX0_firstGap : MethodName := ⟨RX0, "firstGap", "(I)I"⟩
def RX1 : String := "BoatSets$Harbour"
def TX1 : u_T := fun k => match k with
  | 0 => ("BoatSets$Harbour", "fleets", "[LBoatSets$Fleet;", true)
  | _ => ("BoatSets$Harbour", "sets", "I", false)
def tyX1 : Nat → FieldType := fun k => match k with
  | 0 => .array (.object "BoatSets$Fleet")
  | _ => .int
abbrev wsX10 : List Cond := u_ws RX1 TX1 2
theorem nmX1 : ∀ a, a < 2 → ∀ b, b < 2 → a ≠ b → (TX1 a).2.1 ≠ (TX1 b).2.1 := by decide +kernel
theorem tyX1_ok : ∀ k, k < 2 → parseFieldDescriptor (TX1 k).2.2.1 = some (tyX1 k) := by decide +kernel
abbrev cX1_init : ByteArray := prog_3_method_1_code
def yX1_init : MethodName := ⟨RX1, "<init>", "()V"⟩
abbrev cX1_copyFrom : ByteArray := prog_3_method_2_code
def yX1_copyFrom : MethodName := ⟨RX1, "copyFrom", "(LBoatSets$Harbour;)V"⟩
abbrev cX1_open : ByteArray := prog_3_method_3_code
def yX1_open : MethodName := ⟨RX1, "open", "(I)I"⟩
abbrev cX1_setsAtSea : ByteArray := prog_3_method_4_code
def yX1_setsAtSea : MethodName := ⟨RX1, "setsAtSea", "()I"⟩
abbrev cX1_boatsOfKind : ByteArray := prog_3_method_5_code
def yX1_boatsOfKind : MethodName := ⟨RX1, "boatsOfKind", "(I)I"⟩
abbrev cX1_units : ByteArray := prog_3_method_6_code
def yX1_units : MethodName := ⟨RX1, "units", "()I"⟩
abbrev cX1_numbers : ByteArray := prog_3_method_7_code
def yX1_numbers : MethodName := ⟨RX1, "numbers", "()I"⟩
abbrev cX1_tollsPaid : ByteArray := prog_3_method_8_code
def yX1_tollsPaid : MethodName := ⟨RX1, "tollsPaid", "()I"⟩
abbrev cX1_differentNumbers : ByteArray := prog_3_method_9_code
def yX1_differentNumbers : MethodName := ⟨RX1, "differentNumbers", "()I"⟩
abbrev cX1_heldByAny : ByteArray := prog_3_method_10_code
def yX1_heldByAny : MethodName := ⟨RX1, "heldByAny", "(I)J"⟩
abbrev cX1_holders : ByteArray := prog_3_method_11_code
def yX1_holders : MethodName := ⟨RX1, "holders", "(I)I"⟩
abbrev cX1_mostHeld : ByteArray := prog_3_method_12_code
def yX1_mostHeld : MethodName := ⟨RX1, "mostHeld", "()I"⟩
abbrev cX1_numberOfAll : ByteArray := prog_3_method_13_code
def yX1_numberOfAll : MethodName := ⟨RX1, "numberOfAll", "(I)I"⟩
def RX2 : String := "BoatSets$History"
def TX2 : u_T := fun k => match k with
  | 0 => ("BoatSets$History", "states", "[LBoatSets$Harbour;", true)
  | _ => ("BoatSets$History", "size", "I", false)
def tyX2 : Nat → FieldType := fun k => match k with
  | 0 => .array (.object "BoatSets$Harbour")
  | _ => .int
abbrev wsX20 : List Cond := u_ws RX2 TX2 2
theorem nmX2 : ∀ a, a < 2 → ∀ b, b < 2 → a ≠ b → (TX2 a).2.1 ≠ (TX2 b).2.1 := by decide +kernel
theorem tyX2_ok : ∀ k, k < 2 → parseFieldDescriptor (TX2 k).2.2.1 = some (tyX2 k) := by decide +kernel
abbrev cX2_init : ByteArray := prog_4_method_1_code
def yX2_init : MethodName := ⟨RX2, "<init>", "()V"⟩
abbrev cX2_push : ByteArray := prog_4_method_2_code
def yX2_push : MethodName := ⟨RX2, "push", "(LBoatSets$Harbour;)V"⟩
abbrev cX2_dropOldest : ByteArray := prog_4_method_3_code
def yX2_dropOldest : MethodName := ⟨RX2, "dropOldest", "()V"⟩
abbrev cX2_popInto : ByteArray := prog_4_method_4_code
def yX2_popInto : MethodName := ⟨RX2, "popInto", "(LBoatSets$Harbour;)V"⟩
def RX3 : String := "BoatSets$RangeText"
def TX3 : u_T := fun k => match k with
  | 0 => ("BoatSets$RangeText", "characters", "[C", true)
  | 1 => ("BoatSets$RangeText", "firsts", "[I", true)
  | 2 => ("BoatSets$RangeText", "lasts", "[I", true)
  | 3 => ("BoatSets$RangeText", "length", "I", false)
  | _ => ("BoatSets$RangeText", "ranges", "I", false)
def tyX3 : Nat → FieldType := fun k => match k with
  | 0 => .array .char
  | 1 => .array .int
  | 2 => .array .int
  | 3 => .int
  | _ => .int
abbrev wsX30 : List Cond := u_ws RX3 TX3 5
theorem nmX3 : ∀ a, a < 5 → ∀ b, b < 5 → a ≠ b → (TX3 a).2.1 ≠ (TX3 b).2.1 := by decide +kernel
theorem tyX3_ok : ∀ k, k < 5 → parseFieldDescriptor (TX3 k).2.2.1 = some (tyX3 k) := by decide +kernel
abbrev cX3_init : ByteArray := prog_5_method_1_code
def yX3_init : MethodName := ⟨RX3, "<init>", "()V"⟩
abbrev cX3_read : ByteArray := prog_5_method_2_code
def yX3_read : MethodName := ⟨RX3, "read", "()I"⟩
abbrev cX3_noteRange : ByteArray := prog_5_method_3_code
def yX3_noteRange : MethodName := ⟨RX3, "noteRange", "(II)V"⟩
abbrev cX3_hasGoodValues : ByteArray := prog_5_method_4_code
def yX3_hasGoodValues : MethodName := ⟨RX3, "hasGoodValues", "()Z"⟩
def RX4 : String := "BoatSets"
def TX4 : u_T := fun k => match k with
  | 0 => ("BoatSets", "now", "LBoatSets$Harbour;", true)
  | 1 => ("BoatSets", "snapshot", "LBoatSets$Harbour;", true)
  | 2 => ("BoatSets", "past", "LBoatSets$History;", true)
  | 3 => ("BoatSets", "text", "LBoatSets$RangeText;", true)
  | 4 => ("BoatSets", "trial", "LBoatSets$Fleet;", true)
  | _ => ("BoatSets", "hasSnapshot", "Z", false)
def tyX4 : Nat → FieldType := fun k => match k with
  | 0 => .object "BoatSets$Harbour"
  | 1 => .object "BoatSets$Harbour"
  | 2 => .object "BoatSets$History"
  | 3 => .object "BoatSets$RangeText"
  | 4 => .object "BoatSets$Fleet"
  | _ => .boolean
abbrev wsX40 : List Cond := u_ws RX4 TX4 6
theorem nmX4 : ∀ a, a < 6 → ∀ b, b < 6 → a ≠ b → (TX4 a).2.1 ≠ (TX4 b).2.1 := by decide +kernel
theorem tyX4_ok : ∀ k, k < 6 → parseFieldDescriptor (TX4 k).2.2.1 = some (tyX4 k) := by decide +kernel
abbrev cX4_init : ByteArray := prog_1_method_1_code
def yX4_init : MethodName := ⟨RX4, "<init>", "()V"⟩
abbrev cX4_newSet : ByteArray := prog_1_method_2_code
def yX4_newSet : MethodName := ⟨RX4, "newSet", "(I)I"⟩
abbrev cX4_pay : ByteArray := prog_1_method_3_code
def yX4_pay : MethodName := ⟨RX4, "pay", "(II)I"⟩
abbrev cX4_sail : ByteArray := prog_1_method_4_code
def yX4_sail : MethodName := ⟨RX4, "sail", "(I)I"⟩
abbrev cX4_dock : ByteArray := prog_1_method_5_code
def yX4_dock : MethodName := ⟨RX4, "dock", "(I)I"⟩
abbrev cX4_add : ByteArray := prog_1_method_6_code
def yX4_add : MethodName := ⟨RX4, "add", "(II)I"⟩
abbrev cX4_remove : ByteArray := prog_1_method_7_code
def yX4_remove : MethodName := ⟨RX4, "remove", "(II)I"⟩
abbrev cX4_addRange : ByteArray := prog_1_method_8_code
def yX4_addRange : MethodName := ⟨RX4, "addRange", "(III)I"⟩
abbrev cX4_removeRange : ByteArray := prog_1_method_9_code
def yX4_removeRange : MethodName := ⟨RX4, "removeRange", "(III)I"⟩
abbrev cX4_combine : ByteArray := prog_1_method_10_code
def yX4_combine : MethodName := ⟨RX4, "combine", "(IIII)I"⟩
abbrev cX4_type : ByteArray := prog_1_method_11_code
def yX4_type : MethodName := ⟨RX4, "type", "(C)I"⟩
abbrev cX4_clearText : ByteArray := prog_1_method_12_code
def yX4_clearText : MethodName := ⟨RX4, "clearText", "()I"⟩
abbrev cX4_readRanges : ByteArray := prog_1_method_13_code
def yX4_readRanges : MethodName := ⟨RX4, "readRanges", "(I)I"⟩
abbrev cX4_undo : ByteArray := prog_1_method_14_code
def yX4_undo : MethodName := ⟨RX4, "undo", "()I"⟩
abbrev cX4_keep : ByteArray := prog_1_method_15_code
def yX4_keep : MethodName := ⟨RX4, "keep", "()I"⟩
abbrev cX4_restore : ByteArray := prog_1_method_16_code
def yX4_restore : MethodName := ⟨RX4, "restore", "()I"⟩
abbrev cX4_has : ByteArray := prog_1_method_17_code
def yX4_has : MethodName := ⟨RX4, "has", "(II)I"⟩
abbrev cX4_set : ByteArray := prog_1_method_18_code
def yX4_set : MethodName := ⟨RX4, "set", "(II)I"⟩
abbrev cX4_boat : ByteArray := prog_1_method_19_code
def yX4_boat : MethodName := ⟨RX4, "boat", "(III)I"⟩
abbrev cX4_rank : ByteArray := prog_1_method_20_code
def yX4_rank : MethodName := ⟨RX4, "rank", "(II)I"⟩
abbrev cX4_at : ByteArray := prog_1_method_21_code
def yX4_at : MethodName := ⟨RX4, "at", "(II)I"⟩
abbrev cX4_next : ByteArray := prog_1_method_22_code
def yX4_next : MethodName := ⟨RX4, "next", "(II)I"⟩
abbrev cX4_nearest : ByteArray := prog_1_method_23_code
def yX4_nearest : MethodName := ⟨RX4, "nearest", "(II)I"⟩
abbrev cX4_gap : ByteArray := prog_1_method_24_code
def yX4_gap : MethodName := ⟨RX4, "gap", "(II)I"⟩
abbrev cX4_sizeOf : ByteArray := prog_1_method_25_code
def yX4_sizeOf : MethodName := ⟨RX4, "sizeOf", "(III)I"⟩
abbrev cX4_ofAll : ByteArray := prog_1_method_26_code
def yX4_ofAll : MethodName := ⟨RX4, "ofAll", "(I)I"⟩
abbrev cX4_most : ByteArray := prog_1_method_27_code
def yX4_most : MethodName := ⟨RX4, "most", "()I"⟩
abbrev cX4_tollToDock : ByteArray := prog_1_method_28_code
def yX4_tollToDock : MethodName := ⟨RX4, "tollToDock", "(I)I"⟩
abbrev cX4_count : ByteArray := prog_1_method_29_code
def yX4_count : MethodName := ⟨RX4, "count", "(I)I"⟩
abbrev cX4_isSet : ByteArray := prog_1_method_30_code
def yX4_isSet : MethodName := ⟨RX4, "isSet", "(I)Z"⟩
abbrev cX4_isNumber : ByteArray := prog_1_method_31_code
def yX4_isNumber : MethodName := ⟨RX4, "isNumber", "(I)Z"⟩
abbrev cX4_isHow : ByteArray := prog_1_method_32_code
def yX4_isHow : MethodName := ⟨RX4, "isHow", "(I)Z"⟩
abbrev cX4_moveRange : ByteArray := prog_1_method_33_code
def yX4_moveRange : MethodName := ⟨RX4, "moveRange", "(IIIZ)I"⟩
abbrev cX4_settleTrial : ByteArray := prog_1_method_34_code
def yX4_settleTrial : MethodName := ⟨RX4, "settleTrial", "(II)I"⟩
abbrev cX4_join : ByteArray := prog_1_method_35_code
def yX4_join : MethodName := ⟨RX4, "join", "(IJJ)J"⟩
def RX5 : String := "BoatSetsModel"
def TX5 : u_T := fun k => match k with
  | 0 => ("BoatSetsModel", "now", "[I", true)
  | 1 => ("BoatSetsModel", "past", "[I", true)
  | 2 => ("BoatSetsModel", "pasts", "I", false)
  | 3 => ("BoatSetsModel", "kept", "[I", true)
  | 4 => ("BoatSetsModel", "isKept", "Z", false)
  | 5 => ("BoatSetsModel", "trial", "[I", true)
  | 6 => ("BoatSetsModel", "text", "[I", true)
  | 7 => ("BoatSetsModel", "typed", "I", false)
  | 8 => ("BoatSetsModel", "looked", "I", false)
  | 9 => ("BoatSetsModel", "given", "[I", true)
  | 10 => ("BoatSetsModel", "numbers", "[I", true)
  | 11 => ("BoatSetsModel", "readMany", "I", false)
  | _ => ("BoatSetsModel", "at", "I", false)
def tyX5 : Nat → FieldType := fun k => match k with
  | 0 => .array .int
  | 1 => .array .int
  | 2 => .int
  | 3 => .array .int
  | 4 => .boolean
  | 5 => .array .int
  | 6 => .array .int
  | 7 => .int
  | 8 => .int
  | 9 => .array .int
  | 10 => .array .int
  | 11 => .int
  | _ => .int
abbrev wsX50 : List Cond := u_ws RX5 TX5 13
theorem nmX5 : ∀ a, a < 13 → ∀ b, b < 13 → a ≠ b → (TX5 a).2.1 ≠ (TX5 b).2.1 := by decide +kernel
theorem tyX5_ok : ∀ k, k < 13 → parseFieldDescriptor (TX5 k).2.2.1 = some (tyX5 k) := by decide +kernel
abbrev cX5_init : ByteArray := prog_7_method_1_code
def yX5_init : MethodName := ⟨RX5, "<init>", "()V"⟩
abbrev cX5_in : ByteArray := prog_7_method_2_code
def yX5_in : MethodName := ⟨RX5, "in", "(III)Z"⟩
abbrev cX5_copies : ByteArray := prog_7_method_3_code
def yX5_copies : MethodName := ⟨RX5, "copies", "([II[II)V"⟩
abbrev cX5_records : ByteArray := prog_7_method_4_code
def yX5_records : MethodName := ⟨RX5, "records", "([I)V"⟩
abbrev cX5_isSet : ByteArray := prog_7_method_5_code
def yX5_isSet : MethodName := ⟨RX5, "isSet", "(I)Z"⟩
abbrev cX5_isNumber : ByteArray := prog_7_method_6_code
def yX5_isNumber : MethodName := ⟨RX5, "isNumber", "(I)Z"⟩
abbrev cX5_of : ByteArray := prog_7_method_7_code
def yX5_of : MethodName := ⟨RX5, "of", "(II)I"⟩
abbrev cX5_lays : ByteArray := prog_7_method_8_code
def yX5_lays : MethodName := ⟨RX5, "lays", "(III)V"⟩
abbrev cX5_isIn : ByteArray := prog_7_method_9_code
def yX5_isIn : MethodName := ⟨RX5, "isIn", "(II)Z"⟩
abbrev cX5_puts : ByteArray := prog_7_method_10_code
def yX5_puts : MethodName := ⟨RX5, "puts", "(IIZ)V"⟩
abbrev cX5_kindOf : ByteArray := prog_7_method_11_code
def yX5_kindOf : MethodName := ⟨RX5, "kindOf", "(II)I"⟩
abbrev cX5_manyIn : ByteArray := prog_7_method_12_code
def yX5_manyIn : MethodName := ⟨RX5, "manyIn", "(II)I"⟩
abbrev cX5_runsIn : ByteArray := prog_7_method_13_code
def yX5_runsIn : MethodName := ⟨RX5, "runsIn", "(II)I"⟩
abbrev cX5_holds : ByteArray := prog_7_method_14_code
def yX5_holds : MethodName := ⟨RX5, "holds", "(III)Z"⟩
abbrev cX5_units : ByteArray := prog_7_method_15_code
def yX5_units : MethodName := ⟨RX5, "units", "(III)I"⟩
abbrev cX5_best : ByteArray := prog_7_method_16_code
def yX5_best : MethodName := ⟨RX5, "best", "(II)I"⟩
abbrev cX5_unitsOf : ByteArray := prog_7_method_17_code
def yX5_unitsOf : MethodName := ⟨RX5, "unitsOf", "(II)I"⟩
abbrev cX5_bestOf : ByteArray := prog_7_method_18_code
def yX5_bestOf : MethodName := ⟨RX5, "bestOf", "(II)I"⟩
abbrev cX5_tollOf : ByteArray := prog_7_method_19_code
def yX5_tollOf : MethodName := ⟨RX5, "tollOf", "(II)I"⟩
abbrev cX5_becomes : ByteArray := prog_7_method_20_code
def yX5_becomes : MethodName := ⟨RX5, "becomes", "(II)V"⟩
abbrev cX5_goes : ByteArray := prog_7_method_21_code
def yX5_goes : MethodName := ⟨RX5, "goes", "(IIZ)Z"⟩
abbrev cX5_newSet : ByteArray := prog_7_method_22_code
def yX5_newSet : MethodName := ⟨RX5, "newSet", "(I)I"⟩
abbrev cX5_pay : ByteArray := prog_7_method_23_code
def yX5_pay : MethodName := ⟨RX5, "pay", "(II)I"⟩
abbrev cX5_boatsOf : ByteArray := prog_7_method_24_code
def yX5_boatsOf : MethodName := ⟨RX5, "boatsOf", "(I)I"⟩
abbrev cX5_sail : ByteArray := prog_7_method_25_code
def yX5_sail : MethodName := ⟨RX5, "sail", "(I)I"⟩
abbrev cX5_nextToDock : ByteArray := prog_7_method_26_code
def yX5_nextToDock : MethodName := ⟨RX5, "nextToDock", "(I)I"⟩
abbrev cX5_docks : ByteArray := prog_7_method_27_code
def yX5_docks : MethodName := ⟨RX5, "docks", "(I)I"⟩
abbrev cX5_dock : ByteArray := prog_7_method_28_code
def yX5_dock : MethodName := ⟨RX5, "dock", "(I)I"⟩
abbrev cX5_add : ByteArray := prog_7_method_29_code
def yX5_add : MethodName := ⟨RX5, "add", "(II)I"⟩
abbrev cX5_remove : ByteArray := prog_7_method_30_code
def yX5_remove : MethodName := ⟨RX5, "remove", "(II)I"⟩
abbrev cX5_goesAll : ByteArray := prog_7_method_31_code
def yX5_goesAll : MethodName := ⟨RX5, "goesAll", "(IIIZ)I"⟩
abbrev cX5_ends : ByteArray := prog_7_method_32_code
def yX5_ends : MethodName := ⟨RX5, "ends", "(I)I"⟩
abbrev cX5_ranges : ByteArray := prog_7_method_33_code
def yX5_ranges : MethodName := ⟨RX5, "ranges", "(IIIZ)I"⟩
abbrev cX5_addRange : ByteArray := prog_7_method_34_code
def yX5_addRange : MethodName := ⟨RX5, "addRange", "(III)I"⟩
abbrev cX5_removeRange : ByteArray := prog_7_method_35_code
def yX5_removeRange : MethodName := ⟨RX5, "removeRange", "(III)I"⟩
abbrev cX5_gives : ByteArray := prog_7_method_36_code
def yX5_gives : MethodName := ⟨RX5, "gives", "(IZZ)Z"⟩
abbrev cX5_laysGiven : ByteArray := prog_7_method_37_code
def yX5_laysGiven : MethodName := ⟨RX5, "laysGiven", "(III)I"⟩
abbrev cX5_combine : ByteArray := prog_7_method_38_code
def yX5_combine : MethodName := ⟨RX5, "combine", "(IIII)I"⟩
abbrev cX5_type : ByteArray := prog_7_method_39_code
def yX5_type : MethodName := ⟨RX5, "type", "(C)I"⟩
abbrev cX5_clearText : ByteArray := prog_7_method_40_code
def yX5_clearText : MethodName := ⟨RX5, "clearText", "()I"⟩
abbrev cX5_signAt : ByteArray := prog_7_method_41_code
def yX5_signAt : MethodName := ⟨RX5, "signAt", "(I)I"⟩
abbrev cX5_readsNumber : ByteArray := prog_7_method_42_code
def yX5_readsNumber : MethodName := ⟨RX5, "readsNumber", "()I"⟩
abbrev cX5_faultOf : ByteArray := prog_7_method_43_code
def yX5_faultOf : MethodName := ⟨RX5, "faultOf", "()I"⟩
abbrev cX5_readRanges : ByteArray := prog_7_method_44_code
def yX5_readRanges : MethodName := ⟨RX5, "readRanges", "(I)I"⟩
abbrev cX5_undo : ByteArray := prog_7_method_45_code
def yX5_undo : MethodName := ⟨RX5, "undo", "()I"⟩
abbrev cX5_keep : ByteArray := prog_7_method_46_code
def yX5_keep : MethodName := ⟨RX5, "keep", "()I"⟩
abbrev cX5_restore : ByteArray := prog_7_method_47_code
def yX5_restore : MethodName := ⟨RX5, "restore", "()I"⟩
abbrev cX5_has : ByteArray := prog_7_method_48_code
def yX5_has : MethodName := ⟨RX5, "has", "(II)I"⟩
abbrev cX5_rankOf : ByteArray := prog_7_method_49_code
def yX5_rankOf : MethodName := ⟨RX5, "rankOf", "(II)I"⟩
abbrev cX5_firstFrom : ByteArray := prog_7_method_50_code
def yX5_firstFrom : MethodName := ⟨RX5, "firstFrom", "(III)I"⟩
abbrev cX5_sumOf : ByteArray := prog_7_method_51_code
def yX5_sumOf : MethodName := ⟨RX5, "sumOf", "(II)I"⟩
abbrev cX5_set : ByteArray := prog_7_method_52_code
def yX5_set : MethodName := ⟨RX5, "set", "(II)I"⟩
abbrev cX5_boat : ByteArray := prog_7_method_53_code
def yX5_boat : MethodName := ⟨RX5, "boat", "(III)I"⟩
abbrev cX5_rank : ByteArray := prog_7_method_54_code
def yX5_rank : MethodName := ⟨RX5, "rank", "(II)I"⟩
abbrev cX5_at : ByteArray := prog_7_method_55_code
def yX5_at : MethodName := ⟨RX5, "at", "(II)I"⟩
abbrev cX5_next : ByteArray := prog_7_method_56_code
def yX5_next : MethodName := ⟨RX5, "next", "(II)I"⟩
abbrev cX5_nearest : ByteArray := prog_7_method_57_code
def yX5_nearest : MethodName := ⟨RX5, "nearest", "(II)I"⟩
abbrev cX5_gap : ByteArray := prog_7_method_58_code
def yX5_gap : MethodName := ⟨RX5, "gap", "(II)I"⟩
abbrev cX5_sizeOf : ByteArray := prog_7_method_59_code
def yX5_sizeOf : MethodName := ⟨RX5, "sizeOf", "(III)I"⟩
abbrev cX5_setsWith : ByteArray := prog_7_method_60_code
def yX5_setsWith : MethodName := ⟨RX5, "setsWith", "(I)I"⟩
abbrev cX5_ofAll : ByteArray := prog_7_method_61_code
def yX5_ofAll : MethodName := ⟨RX5, "ofAll", "(I)I"⟩
abbrev cX5_most : ByteArray := prog_7_method_62_code
def yX5_most : MethodName := ⟨RX5, "most", "()I"⟩
abbrev cX5_tollToDock : ByteArray := prog_7_method_63_code
def yX5_tollToDock : MethodName := ⟨RX5, "tollToDock", "(I)I"⟩
abbrev cX5_overAll : ByteArray := prog_7_method_64_code
def yX5_overAll : MethodName := ⟨RX5, "overAll", "(I)I"⟩
abbrev cX5_different : ByteArray := prog_7_method_65_code
def yX5_different : MethodName := ⟨RX5, "different", "()I"⟩
abbrev cX5_count : ByteArray := prog_7_method_66_code
def yX5_count : MethodName := ⟨RX5, "count", "(I)I"⟩
def RJ13 : String := "java/lang/Long"
def TJ13 : u_T := fun k => match k with
  | _ => ("", "", "", false)
def tyJ13 : Nat → FieldType := fun k => match k with
  | _ => .int
abbrev wsJ130 : List Cond := u_ws RJ13 TJ13 0
theorem nmJ13 : ∀ a, a < 0 → ∀ b, b < 0 → a ≠ b → (TJ13 a).2.1 ≠ (TJ13 b).2.1 := by decide +kernel
theorem tyJ13_ok : ∀ k, k < 0 → parseFieldDescriptor (TJ13 k).2.2.1 = some (tyJ13 k) := by decide +kernel
abbrev cJ13_bitCount_95d88 : ByteArray := prog_8_method_50_code
def yJ13_bitCount_95d88 : MethodName := ⟨RJ13, "bitCount", "(J)I"⟩
def RJ9 : String := "java/lang/Math"
def TJ9 : u_T := fun k => match k with
  | _ => ("", "", "", false)
def tyJ9 : Nat → FieldType := fun k => match k with
  | _ => .int
abbrev wsJ90 : List Cond := u_ws RJ9 TJ9 0
theorem nmJ9 : ∀ a, a < 0 → ∀ b, b < 0 → a ≠ b → (TJ9 a).2.1 ≠ (TJ9 b).2.1 := by decide +kernel
theorem tyJ9_ok : ∀ k, k < 0 → parseFieldDescriptor (TJ9 k).2.2.1 = some (tyJ9 k) := by decide +kernel
abbrev cJ9_max_7cf53 : ByteArray := prog_9_method_65_code
def yJ9_max_7cf53 : MethodName := ⟨RJ9, "max", "(II)I"⟩
abbrev cJ9_min_7cf53 : ByteArray := prog_9_method_69_code
def yJ9_min_7cf53 : MethodName := ⟨RJ9, "min", "(II)I"⟩
def RJ10 : String := "java/lang/System"
def TJ10 : u_T := fun k => match k with
  | _ => ("", "", "", false)
def tyJ10 : Nat → FieldType := fun k => match k with
  | _ => .int
abbrev wsJ100 : List Cond := u_ws RJ10 TJ10 0
theorem nmJ10 : ∀ a, a < 0 → ∀ b, b < 0 → a ≠ b → (TJ10 a).2.1 ≠ (TJ10 b).2.1 := by decide +kernel
theorem tyJ10_ok : ∀ k, k < 0 → parseFieldDescriptor (TJ10 k).2.2.1 = some (tyJ10 k) := by decide +kernel
def RJ7 : String := "java/util/Arrays"
def TJ7 : u_T := fun k => match k with
  | _ => ("", "", "", false)
def tyJ7 : Nat → FieldType := fun k => match k with
  | _ => .int
abbrev wsJ70 : List Cond := u_ws RJ7 TJ7 0
theorem nmJ7 : ∀ a, a < 0 → ∀ b, b < 0 → a ≠ b → (TJ7 a).2.1 ≠ (TJ7 b).2.1 := by decide +kernel
theorem tyJ7_ok : ∀ k, k < 0 → parseFieldDescriptor (TJ7 k).2.2.1 = some (tyJ7 k) := by decide +kernel
abbrev cJ7_fill_d0a16 : ByteArray := prog_11_method_101_code
def yJ7_fill_d0a16 : MethodName := ⟨RJ7, "fill", "([JJ)V"⟩
abbrev cJ7_fill_53178 : ByteArray := prog_11_method_103_code
def yJ7_fill_53178 : MethodName := ⟨RJ7, "fill", "([II)V"⟩
def RL : String := "BoatSetsLaw"
abbrev cL_law : ByteArray := code
def yL_law : MethodName := ⟨RL, "law", "([I)Z"⟩
def wsX0_init : List Cond := .code yX0_init cX0_init 1 none :: ([.methodLink RX0 3 objectInit, .instanceMethod objectInit, .code objectInit ⟨#[0xb1]⟩ 1 none, .arrayClass .long, .fieldLink RX0 9 "BoatSets$Fleet" "words" "[J", .arrayClass .int, .fieldLink RX0 15 "BoatSets$Fleet" "kinds" "[I", .fieldLink RX0 19 "BoatSets$Fleet" "sizes" "[I", .fieldLink RX0 22 "BoatSets$Fleet" "runs" "[I"] ++ wsX00)
def wsJ7_fill_d0a16 : List Cond := .code yJ7_fill_d0a16 cJ7_fill_d0a16 5 none :: ([])
def wsJ7_fill_53178 : List Cond := .code yJ7_fill_53178 cJ7_fill_53178 4 none :: ([])
def wsX0_clearNumbers : List Cond := .code yX0_clearNumbers cX0_clearNumbers 1 none :: ([.fieldLink RX0 9 "BoatSets$Fleet" "words" "[J", .fieldLink RX0 15 "BoatSets$Fleet" "kinds" "[I", .fieldLink RX0 19 "BoatSets$Fleet" "sizes" "[I", .fieldLink RX0 22 "BoatSets$Fleet" "runs" "[I", .methodLink RX0 39 yJ7_fill_d0a16, .static yJ7_fill_d0a16, .initialized RJ7, .code yJ7_fill_d0a16 cJ7_fill_d0a16 5 none, .methodLink RX0 45 yJ7_fill_53178, .static yJ7_fill_53178, .code yJ7_fill_53178 cJ7_fill_53178 4 none] ++ wsX00)
def wsX0_begin : List Cond := .code yX0_begin cX0_begin 2 none :: ([.fieldLink RX0 28 "BoatSets$Fleet" "purse" "I", .fieldLink RX0 32 "BoatSets$Fleet" "paid" "I", .fieldLink RX0 35 "BoatSets$Fleet" "atSea" "Z", .methodLink RX0 25 yX0_clearNumbers, .instanceMethod yX0_clearNumbers, .selects RX0 yX0_clearNumbers yX0_clearNumbers, .initialized RX0, .code yX0_clearNumbers cX0_clearNumbers 1 none, .fieldLink RX0 9 "BoatSets$Fleet" "words" "[J", .fieldLink RX0 15 "BoatSets$Fleet" "kinds" "[I", .fieldLink RX0 19 "BoatSets$Fleet" "sizes" "[I", .fieldLink RX0 22 "BoatSets$Fleet" "runs" "[I", .methodLink RX0 39 yJ7_fill_d0a16, .static yJ7_fill_d0a16, .initialized RJ7, .code yJ7_fill_d0a16 cJ7_fill_d0a16 5 none, .methodLink RX0 45 yJ7_fill_53178, .static yJ7_fill_53178, .code yJ7_fill_53178 cJ7_fill_53178 4 none] ++ wsX00)
def wsX0_copyFrom : List Cond := .code yX0_copyFrom cX0_copyFrom 2 none :: ([.fieldLink RX0 9 "BoatSets$Fleet" "words" "[J", .methodLink RX0 48 arraycopyName, .native arraycopyName, .static arraycopyName, .initialized "java/lang/System", .fieldLink RX0 15 "BoatSets$Fleet" "kinds" "[I", .fieldLink RX0 19 "BoatSets$Fleet" "sizes" "[I", .fieldLink RX0 22 "BoatSets$Fleet" "runs" "[I", .fieldLink RX0 28 "BoatSets$Fleet" "purse" "I", .fieldLink RX0 32 "BoatSets$Fleet" "paid" "I", .fieldLink RX0 35 "BoatSets$Fleet" "atSea" "Z"] ++ wsX00)
def wsX4_isNumber : List Cond := .code yX4_isNumber cX4_isNumber 1 (some .boolean) :: ([])
def wsX0_holds : List Cond := .code yX0_holds cX0_holds 2 (some .boolean) :: ([.fieldLink RX0 9 "BoatSets$Fleet" "words" "[J", .static yX4_isNumber, .initialized RX4, .code yX4_isNumber cX4_isNumber 1 (some .boolean)] ++ wsX00)
def wsX0_neighboursInBay : List Cond := .code yX0_neighboursInBay cX0_neighboursInBay 4 (some .int) :: ([.methodLink RX0 58 yX0_holds, .instanceMethod yX0_holds, .selects RX0 yX0_holds yX0_holds, .initialized RX0, .code yX0_holds cX0_holds 2 (some .boolean), .fieldLink RX0 9 "BoatSets$Fleet" "words" "[J", .static yX4_isNumber, .initialized RX4, .code yX4_isNumber cX4_isNumber 1 (some .boolean)] ++ wsX00)
def wsX0_flip : List Cond := .code yX0_flip cX0_flip 4 none :: ([.fieldLink RX0 9 "BoatSets$Fleet" "words" "[J", .fieldLink RX0 19 "BoatSets$Fleet" "sizes" "[I", .fieldLink RX0 22 "BoatSets$Fleet" "runs" "[I", .static yX4_isNumber, .initialized RX4, .code yX4_isNumber cX4_isNumber 1 (some .boolean), .methodLink RX0 58 yX0_holds, .instanceMethod yX0_holds, .selects RX0 yX0_holds yX0_holds, .initialized RX0, .code yX0_holds cX0_holds 2 (some .boolean), .methodLink RX0 61 yX0_neighboursInBay, .instanceMethod yX0_neighboursInBay, .selects RX0 yX0_neighboursInBay yX0_neighboursInBay, .code yX0_neighboursInBay cX0_neighboursInBay 4 (some .int)] ++ wsX00)
def wsX0_canHold : List Cond := .code yX0_canHold cX0_canHold 3 (some .boolean) :: ([.fieldLink RX0 19 "BoatSets$Fleet" "sizes" "[I", .fieldLink RX0 22 "BoatSets$Fleet" "runs" "[I"] ++ wsX00)
def wsX0_unitsAs : List Cond := .code yX0_unitsAs cX0_unitsAs 3 (some .int) :: ([.fieldLink RX0 19 "BoatSets$Fleet" "sizes" "[I", .fieldLink RX0 22 "BoatSets$Fleet" "runs" "[I"] ++ wsX00)
def wsX0_bestKind : List Cond := .code yX0_bestKind cX0_bestKind 3 (some .int) :: ([.methodLink RX0 84 yX0_canHold, .instanceMethod yX0_canHold, .selects RX0 yX0_canHold yX0_canHold, .initialized RX0, .code yX0_canHold cX0_canHold 3 (some .boolean), .fieldLink RX0 19 "BoatSets$Fleet" "sizes" "[I", .fieldLink RX0 22 "BoatSets$Fleet" "runs" "[I", .methodLink RX0 91 yX0_unitsAs, .instanceMethod yX0_unitsAs, .selects RX0 yX0_unitsAs yX0_unitsAs, .code yX0_unitsAs cX0_unitsAs 3 (some .int)] ++ wsX00)
def wsX0_becomeBest : List Cond := .code yX0_becomeBest cX0_becomeBest 4 (some .int) :: ([.fieldLink RX0 15 "BoatSets$Fleet" "kinds" "[I", .fieldLink RX0 28 "BoatSets$Fleet" "purse" "I", .fieldLink RX0 32 "BoatSets$Fleet" "paid" "I", .methodLink RX0 88 yX0_bestKind, .instanceMethod yX0_bestKind, .selects RX0 yX0_bestKind yX0_bestKind, .initialized RX0, .code yX0_bestKind cX0_bestKind 3 (some .int), .methodLink RX0 84 yX0_canHold, .instanceMethod yX0_canHold, .selects RX0 yX0_canHold yX0_canHold, .code yX0_canHold cX0_canHold 3 (some .boolean), .fieldLink RX0 19 "BoatSets$Fleet" "sizes" "[I", .fieldLink RX0 22 "BoatSets$Fleet" "runs" "[I", .methodLink RX0 91 yX0_unitsAs, .instanceMethod yX0_unitsAs, .selects RX0 yX0_unitsAs yX0_unitsAs, .code yX0_unitsAs cX0_unitsAs 3 (some .int)] ++ wsX00)
def wsX0_adaptBoat : List Cond := .code yX0_adaptBoat cX0_adaptBoat 2 (some .boolean) :: ([.fieldLink RX0 19 "BoatSets$Fleet" "sizes" "[I", .fieldLink RX0 15 "BoatSets$Fleet" "kinds" "[I", .fieldLink RX0 35 "BoatSets$Fleet" "atSea" "Z", .methodLink RX0 81 yX0_becomeBest, .instanceMethod yX0_becomeBest, .selects RX0 yX0_becomeBest yX0_becomeBest, .initialized RX0, .code yX0_becomeBest cX0_becomeBest 4 (some .int), .fieldLink RX0 28 "BoatSets$Fleet" "purse" "I", .fieldLink RX0 32 "BoatSets$Fleet" "paid" "I", .methodLink RX0 88 yX0_bestKind, .instanceMethod yX0_bestKind, .selects RX0 yX0_bestKind yX0_bestKind, .code yX0_bestKind cX0_bestKind 3 (some .int), .methodLink RX0 84 yX0_canHold, .instanceMethod yX0_canHold, .selects RX0 yX0_canHold yX0_canHold, .code yX0_canHold cX0_canHold 3 (some .boolean), .fieldLink RX0 22 "BoatSets$Fleet" "runs" "[I", .methodLink RX0 91 yX0_unitsAs, .instanceMethod yX0_unitsAs, .selects RX0 yX0_unitsAs yX0_unitsAs, .code yX0_unitsAs cX0_unitsAs 3 (some .int)] ++ wsX00)
def wsX0_move_r1 : List Cond := [Cond.methodLink RX0 65 Lib.Math.max.name, Cond.static Lib.Math.max.name, Cond.initialized "java/lang/Math", Cond.code Lib.Math.max.name Lib.Math.max.code 2 (some .int), Cond.methodLink RX0 71 Lib.Math.min.name, Cond.static Lib.Math.min.name, Cond.code Lib.Math.min.name Lib.Math.min.code 2 (some .int), Cond.methodLink RX0 58 yX0_holds, Cond.instanceMethod yX0_holds, Cond.selects RX0 yX0_holds yX0_holds, Cond.initialized RX0, Cond.code yX0_holds cX0_holds 2 (some .boolean), Cond.fieldLink RX0 9 "BoatSets$Fleet" "words" "[J", Cond.static yX4_isNumber, Cond.initialized RX4, Cond.code yX4_isNumber cX4_isNumber 1 (some .boolean), Cond.methodLink RX0 74 yX0_flip, Cond.instanceMethod yX0_flip, Cond.selects RX0 yX0_flip yX0_flip, Cond.code yX0_flip cX0_flip 4 none, Cond.fieldLink RX0 19 "BoatSets$Fleet" "sizes" "[I", Cond.fieldLink RX0 22 "BoatSets$Fleet" "runs" "[I", Cond.methodLink RX0 61 yX0_neighboursInBay, Cond.instanceMethod yX0_neighboursInBay]
def wsX0_move_r2 : List Cond := [Cond.selects RX0 yX0_neighboursInBay yX0_neighboursInBay, Cond.code yX0_neighboursInBay cX0_neighboursInBay 4 (some .int), Cond.methodLink RX0 78 yX0_adaptBoat, Cond.instanceMethod yX0_adaptBoat, Cond.selects RX0 yX0_adaptBoat yX0_adaptBoat, Cond.code yX0_adaptBoat cX0_adaptBoat 2 (some .boolean), Cond.fieldLink RX0 15 "BoatSets$Fleet" "kinds" "[I", Cond.fieldLink RX0 35 "BoatSets$Fleet" "atSea" "Z", Cond.methodLink RX0 81 yX0_becomeBest, Cond.instanceMethod yX0_becomeBest, Cond.selects RX0 yX0_becomeBest yX0_becomeBest, Cond.code yX0_becomeBest cX0_becomeBest 4 (some .int), Cond.fieldLink RX0 28 "BoatSets$Fleet" "purse" "I", Cond.fieldLink RX0 32 "BoatSets$Fleet" "paid" "I", Cond.methodLink RX0 88 yX0_bestKind, Cond.instanceMethod yX0_bestKind, Cond.selects RX0 yX0_bestKind yX0_bestKind, Cond.code yX0_bestKind cX0_bestKind 3 (some .int), Cond.methodLink RX0 84 yX0_canHold, Cond.instanceMethod yX0_canHold, Cond.selects RX0 yX0_canHold yX0_canHold, Cond.code yX0_canHold cX0_canHold 3 (some .boolean), Cond.methodLink RX0 91 yX0_unitsAs, Cond.instanceMethod yX0_unitsAs]
def wsX0_move_r3 : List Cond := [Cond.selects RX0 yX0_unitsAs yX0_unitsAs, Cond.code yX0_unitsAs cX0_unitsAs 3 (some .int)]
def wsX0_move : List Cond := .code yX0_move cX0_move 8 (some .int) :: ((wsX0_move_r1 ++ (wsX0_move_r2 ++ wsX0_move_r3)) ++ wsX00)
def wsX0_baySavingMost : List Cond := .code yX0_baySavingMost cX0_baySavingMost 7 (some .int) :: ([.fieldLink RX0 15 "BoatSets$Fleet" "kinds" "[I", .methodLink RX0 88 yX0_bestKind, .instanceMethod yX0_bestKind, .selects RX0 yX0_bestKind yX0_bestKind, .initialized RX0, .code yX0_bestKind cX0_bestKind 3 (some .int), .methodLink RX0 84 yX0_canHold, .instanceMethod yX0_canHold, .selects RX0 yX0_canHold yX0_canHold, .code yX0_canHold cX0_canHold 3 (some .boolean), .fieldLink RX0 19 "BoatSets$Fleet" "sizes" "[I", .fieldLink RX0 22 "BoatSets$Fleet" "runs" "[I", .methodLink RX0 91 yX0_unitsAs, .instanceMethod yX0_unitsAs, .selects RX0 yX0_unitsAs yX0_unitsAs, .code yX0_unitsAs cX0_unitsAs 3 (some .int)] ++ wsX00)
def wsX0_enterHarbour_r1 : List Cond := [Cond.fieldLink RX0 35 "BoatSets$Fleet" "atSea" "Z", Cond.methodLink RX0 94 yX0_baySavingMost, Cond.instanceMethod yX0_baySavingMost, Cond.selects RX0 yX0_baySavingMost yX0_baySavingMost, Cond.initialized RX0, Cond.code yX0_baySavingMost cX0_baySavingMost 7 (some .int), Cond.fieldLink RX0 15 "BoatSets$Fleet" "kinds" "[I", Cond.methodLink RX0 88 yX0_bestKind, Cond.instanceMethod yX0_bestKind, Cond.selects RX0 yX0_bestKind yX0_bestKind, Cond.code yX0_bestKind cX0_bestKind 3 (some .int), Cond.methodLink RX0 84 yX0_canHold, Cond.instanceMethod yX0_canHold, Cond.selects RX0 yX0_canHold yX0_canHold, Cond.code yX0_canHold cX0_canHold 3 (some .boolean), Cond.fieldLink RX0 19 "BoatSets$Fleet" "sizes" "[I", Cond.fieldLink RX0 22 "BoatSets$Fleet" "runs" "[I", Cond.methodLink RX0 91 yX0_unitsAs, Cond.instanceMethod yX0_unitsAs, Cond.selects RX0 yX0_unitsAs yX0_unitsAs, Cond.code yX0_unitsAs cX0_unitsAs 3 (some .int), Cond.methodLink RX0 81 yX0_becomeBest, Cond.instanceMethod yX0_becomeBest, Cond.selects RX0 yX0_becomeBest yX0_becomeBest]
def wsX0_enterHarbour_r2 : List Cond := [Cond.code yX0_becomeBest cX0_becomeBest 4 (some .int), Cond.fieldLink RX0 28 "BoatSets$Fleet" "purse" "I", Cond.fieldLink RX0 32 "BoatSets$Fleet" "paid" "I"]
def wsX0_enterHarbour : List Cond := .code yX0_enterHarbour cX0_enterHarbour 5 (some .int) :: ((wsX0_enterHarbour_r1 ++ wsX0_enterHarbour_r2) ++ wsX00)
def wsX0_tollToBest : List Cond := .code yX0_tollToBest cX0_tollToBest 3 (some .int) :: ([.fieldLink RX0 15 "BoatSets$Fleet" "kinds" "[I", .methodLink RX0 88 yX0_bestKind, .instanceMethod yX0_bestKind, .selects RX0 yX0_bestKind yX0_bestKind, .initialized RX0, .code yX0_bestKind cX0_bestKind 3 (some .int), .methodLink RX0 84 yX0_canHold, .instanceMethod yX0_canHold, .selects RX0 yX0_canHold yX0_canHold, .code yX0_canHold cX0_canHold 3 (some .boolean), .fieldLink RX0 19 "BoatSets$Fleet" "sizes" "[I", .fieldLink RX0 22 "BoatSets$Fleet" "runs" "[I", .methodLink RX0 91 yX0_unitsAs, .instanceMethod yX0_unitsAs, .selects RX0 yX0_unitsAs yX0_unitsAs, .code yX0_unitsAs cX0_unitsAs 3 (some .int)] ++ wsX00)
def wsX4_join : List Cond := .code yX4_join cX4_join 5 (some .long) :: ([.constantLong RX4 217 (-1)])
def wsX0_fillWith_r1 : List Cond := [Cond.fieldLink RX0 9 "BoatSets$Fleet" "words" "[J", Cond.fieldLink RX0 15 "BoatSets$Fleet" "kinds" "[I", Cond.methodLink RX0 25 yX0_clearNumbers, Cond.instanceMethod yX0_clearNumbers, Cond.selects RX0 yX0_clearNumbers yX0_clearNumbers, Cond.initialized RX0, Cond.code yX0_clearNumbers cX0_clearNumbers 1 none, Cond.fieldLink RX0 19 "BoatSets$Fleet" "sizes" "[I", Cond.fieldLink RX0 22 "BoatSets$Fleet" "runs" "[I", Cond.methodLink RX0 39 yJ7_fill_d0a16, Cond.static yJ7_fill_d0a16, Cond.initialized RJ7, Cond.code yJ7_fill_d0a16 cJ7_fill_d0a16 5 none, Cond.methodLink RX0 45 yJ7_fill_53178, Cond.static yJ7_fill_53178, Cond.code yJ7_fill_53178 cJ7_fill_53178 4 none, Cond.static yX4_join, Cond.initialized RX4, Cond.code yX4_join cX4_join 5 (some .long), Cond.constantLong RX4 217 (-1), Cond.methodLink RX0 74 yX0_flip, Cond.instanceMethod yX0_flip, Cond.selects RX0 yX0_flip yX0_flip, Cond.code yX0_flip cX0_flip 4 none]
def wsX0_fillWith_r2 : List Cond := [Cond.static yX4_isNumber, Cond.code yX4_isNumber cX4_isNumber 1 (some .boolean), Cond.methodLink RX0 58 yX0_holds, Cond.instanceMethod yX0_holds, Cond.selects RX0 yX0_holds yX0_holds, Cond.code yX0_holds cX0_holds 2 (some .boolean), Cond.methodLink RX0 61 yX0_neighboursInBay, Cond.instanceMethod yX0_neighboursInBay, Cond.selects RX0 yX0_neighboursInBay yX0_neighboursInBay, Cond.code yX0_neighboursInBay cX0_neighboursInBay 4 (some .int), Cond.methodLink RX0 88 yX0_bestKind, Cond.instanceMethod yX0_bestKind, Cond.selects RX0 yX0_bestKind yX0_bestKind, Cond.code yX0_bestKind cX0_bestKind 3 (some .int), Cond.methodLink RX0 84 yX0_canHold, Cond.instanceMethod yX0_canHold, Cond.selects RX0 yX0_canHold yX0_canHold, Cond.code yX0_canHold cX0_canHold 3 (some .boolean), Cond.methodLink RX0 91 yX0_unitsAs, Cond.instanceMethod yX0_unitsAs, Cond.selects RX0 yX0_unitsAs yX0_unitsAs, Cond.code yX0_unitsAs cX0_unitsAs 3 (some .int)]
def wsX0_fillWith : List Cond := .code yX0_fillWith cX0_fillWith 8 none :: ((wsX0_fillWith_r1 ++ wsX0_fillWith_r2) ++ wsX00)
def wsX0_numbers : List Cond := .code yX0_numbers cX0_numbers 3 (some .int) :: ([.fieldLink RX0 19 "BoatSets$Fleet" "sizes" "[I"] ++ wsX00)
def wsX0_boatsOfKind : List Cond := .code yX0_boatsOfKind cX0_boatsOfKind 4 (some .int) :: ([.fieldLink RX0 19 "BoatSets$Fleet" "sizes" "[I", .fieldLink RX0 15 "BoatSets$Fleet" "kinds" "[I"] ++ wsX00)
def wsX0_boats : List Cond := .code yX0_boats cX0_boats 1 (some .int) :: ([.methodLink RX0 101 yX0_boatsOfKind, .instanceMethod yX0_boatsOfKind, .selects RX0 yX0_boatsOfKind yX0_boatsOfKind, .initialized RX0, .code yX0_boatsOfKind cX0_boatsOfKind 4 (some .int), .fieldLink RX0 19 "BoatSets$Fleet" "sizes" "[I", .fieldLink RX0 15 "BoatSets$Fleet" "kinds" "[I"] ++ wsX00)
def wsX0_units : List Cond := .code yX0_units cX0_units 3 (some .int) :: ([.fieldLink RX0 15 "BoatSets$Fleet" "kinds" "[I", .methodLink RX0 91 yX0_unitsAs, .instanceMethod yX0_unitsAs, .selects RX0 yX0_unitsAs yX0_unitsAs, .initialized RX0, .code yX0_unitsAs cX0_unitsAs 3 (some .int), .fieldLink RX0 19 "BoatSets$Fleet" "sizes" "[I", .fieldLink RX0 22 "BoatSets$Fleet" "runs" "[I"] ++ wsX00)
def wsX0_bestUnits : List Cond := .code yX0_bestUnits cX0_bestUnits 3 (some .int) :: ([.methodLink RX0 88 yX0_bestKind, .instanceMethod yX0_bestKind, .selects RX0 yX0_bestKind yX0_bestKind, .initialized RX0, .code yX0_bestKind cX0_bestKind 3 (some .int), .methodLink RX0 84 yX0_canHold, .instanceMethod yX0_canHold, .selects RX0 yX0_canHold yX0_canHold, .code yX0_canHold cX0_canHold 3 (some .boolean), .fieldLink RX0 19 "BoatSets$Fleet" "sizes" "[I", .fieldLink RX0 22 "BoatSets$Fleet" "runs" "[I", .methodLink RX0 91 yX0_unitsAs, .instanceMethod yX0_unitsAs, .selects RX0 yX0_unitsAs yX0_unitsAs, .code yX0_unitsAs cX0_unitsAs 3 (some .int)] ++ wsX00)
def wsX0_allRuns : List Cond := .code yX0_allRuns cX0_allRuns 3 (some .int) :: ([.fieldLink RX0 22 "BoatSets$Fleet" "runs" "[I"] ++ wsX00)
def wsJ13_bitCount_95d88 : List Cond := .code yJ13_bitCount_95d88 cJ13_bitCount_95d88 2 (some .int) :: ([.constantLong RJ13 314 (6148914691236517205), .constantLong RJ13 316 (3689348814741910323), .constantLong RJ13 318 (1085102592571150095)])
def wsX0_numbersBelow : List Cond := .code yX0_numbersBelow cX0_numbersBelow 6 (some .int) :: ([.fieldLink RX0 9 "BoatSets$Fleet" "words" "[J", .static yX4_isNumber, .initialized RX4, .code yX4_isNumber cX4_isNumber 1 (some .boolean), .methodLink RX0 104 yJ13_bitCount_95d88, .static yJ13_bitCount_95d88, .initialized RJ13, .code yJ13_bitCount_95d88 cJ13_bitCount_95d88 2 (some .int), .constantLong RJ13 314 (6148914691236517205), .constantLong RJ13 316 (3689348814741910323), .constantLong RJ13 318 (1085102592571150095)] ++ wsX00)
def wsX0_placeOfBit : List Cond := .code yX0_placeOfBit cX0_placeOfBit 6 (some .int) :: ([.methodLink RX0 104 yJ13_bitCount_95d88, .static yJ13_bitCount_95d88, .initialized RJ13, .code yJ13_bitCount_95d88 cJ13_bitCount_95d88 2 (some .int), .constantLong RJ13 314 (6148914691236517205), .constantLong RJ13 316 (3689348814741910323), .constantLong RJ13 318 (1085102592571150095)])
def wsX0_numberAt : List Cond := .code yX0_numberAt cX0_numberAt 5 (some .int) :: ([.fieldLink RX0 9 "BoatSets$Fleet" "words" "[J", .methodLink RX0 104 yJ13_bitCount_95d88, .static yJ13_bitCount_95d88, .initialized RJ13, .code yJ13_bitCount_95d88 cJ13_bitCount_95d88 2 (some .int), .constantLong RJ13 314 (6148914691236517205), .constantLong RJ13 316 (3689348814741910323), .constantLong RJ13 318 (1085102592571150095), .methodLink RX0 110 yX0_placeOfBit, .static yX0_placeOfBit, .initialized RX0, .code yX0_placeOfBit cX0_placeOfBit 6 (some .int)] ++ wsX00)
def wsX0_firstFrom : List Cond := .code yX0_firstFrom cX0_firstFrom 2 (some .int) :: ([.methodLink RX0 114 yX0_numbersBelow, .instanceMethod yX0_numbersBelow, .selects RX0 yX0_numbersBelow yX0_numbersBelow, .initialized RX0, .code yX0_numbersBelow cX0_numbersBelow 6 (some .int), .fieldLink RX0 9 "BoatSets$Fleet" "words" "[J", .static yX4_isNumber, .initialized RX4, .code yX4_isNumber cX4_isNumber 1 (some .boolean), .methodLink RX0 104 yJ13_bitCount_95d88, .static yJ13_bitCount_95d88, .initialized RJ13, .code yJ13_bitCount_95d88 cJ13_bitCount_95d88 2 (some .int), .constantLong RJ13 314 (6148914691236517205), .constantLong RJ13 316 (3689348814741910323), .constantLong RJ13 318 (1085102592571150095), .methodLink RX0 117 yX0_numberAt, .instanceMethod yX0_numberAt, .selects RX0 yX0_numberAt yX0_numberAt, .code yX0_numberAt cX0_numberAt 5 (some .int), .methodLink RX0 110 yX0_placeOfBit, .static yX0_placeOfBit, .code yX0_placeOfBit cX0_placeOfBit 6 (some .int)] ++ wsX00)
def wsX0_firstGap : List Cond := .code yX0_firstGap cX0_firstGap 4 (some .int) :: ([.methodLink RX0 58 yX0_holds, .instanceMethod yX0_holds, .selects RX0 yX0_holds yX0_holds, .initialized RX0, .code yX0_holds cX0_holds 2 (some .boolean), .fieldLink RX0 9 "BoatSets$Fleet" "words" "[J", .static yX4_isNumber, .initialized RX4, .code yX4_isNumber cX4_isNumber 1 (some .boolean)] ++ wsX00)
def wsX1_init : List Cond := .code yX1_init cX1_init 2 none :: ([.methodLink RX1 3 objectInit, .instanceMethod objectInit, .code objectInit ⟨#[0xb1]⟩ 1 none, .classLink RX1 9 RX0, .fieldLink RX1 11 "BoatSets$Harbour" "fleets" "[LBoatSets$Fleet;", .instantiable RX0 7, .initialized RX0, .methodLink RX1 17 yX0_init, .instanceMethod yX0_init, .code yX0_init cX0_init 1 none, .methodLink RX0 3 objectInit, .arrayClass .long, .fieldLink RX0 9 "BoatSets$Fleet" "words" "[J", .arrayClass .int, .fieldLink RX0 15 "BoatSets$Fleet" "kinds" "[I", .fieldLink RX0 19 "BoatSets$Fleet" "sizes" "[I", .fieldLink RX0 22 "BoatSets$Fleet" "runs" "[I"] ++ wsX10 ++ wsX00)
def wsX1_copyFrom : List Cond := .code yX1_copyFrom cX1_copyFrom 3 none :: ([.fieldLink RX1 18 "BoatSets$Harbour" "sets" "I", .fieldLink RX1 11 "BoatSets$Harbour" "fleets" "[LBoatSets$Fleet;", .methodLink RX1 22 yX0_copyFrom, .instanceMethod yX0_copyFrom, .selects RX0 yX0_copyFrom yX0_copyFrom, .initialized RX0, .code yX0_copyFrom cX0_copyFrom 2 none, .fieldLink RX0 9 "BoatSets$Fleet" "words" "[J", .methodLink RX0 48 arraycopyName, .native arraycopyName, .static arraycopyName, .initialized "java/lang/System", .fieldLink RX0 15 "BoatSets$Fleet" "kinds" "[I", .fieldLink RX0 19 "BoatSets$Fleet" "sizes" "[I", .fieldLink RX0 22 "BoatSets$Fleet" "runs" "[I", .fieldLink RX0 28 "BoatSets$Fleet" "purse" "I", .fieldLink RX0 32 "BoatSets$Fleet" "paid" "I", .fieldLink RX0 35 "BoatSets$Fleet" "atSea" "Z"] ++ wsX10 ++ wsX00)
def wsX1_open_r1 : List Cond := [Cond.fieldLink RX1 18 "BoatSets$Harbour" "sets" "I", Cond.fieldLink RX1 11 "BoatSets$Harbour" "fleets" "[LBoatSets$Fleet;", Cond.methodLink RX1 26 yX0_begin, Cond.instanceMethod yX0_begin, Cond.selects RX0 yX0_begin yX0_begin, Cond.initialized RX0, Cond.code yX0_begin cX0_begin 2 none, Cond.fieldLink RX0 28 "BoatSets$Fleet" "purse" "I", Cond.fieldLink RX0 32 "BoatSets$Fleet" "paid" "I", Cond.fieldLink RX0 35 "BoatSets$Fleet" "atSea" "Z", Cond.methodLink RX0 25 yX0_clearNumbers, Cond.instanceMethod yX0_clearNumbers, Cond.selects RX0 yX0_clearNumbers yX0_clearNumbers, Cond.code yX0_clearNumbers cX0_clearNumbers 1 none, Cond.fieldLink RX0 9 "BoatSets$Fleet" "words" "[J", Cond.fieldLink RX0 15 "BoatSets$Fleet" "kinds" "[I", Cond.fieldLink RX0 19 "BoatSets$Fleet" "sizes" "[I", Cond.fieldLink RX0 22 "BoatSets$Fleet" "runs" "[I", Cond.methodLink RX0 39 yJ7_fill_d0a16, Cond.static yJ7_fill_d0a16, Cond.initialized RJ7, Cond.code yJ7_fill_d0a16 cJ7_fill_d0a16 5 none, Cond.methodLink RX0 45 yJ7_fill_53178, Cond.static yJ7_fill_53178]
def wsX1_open_r2 : List Cond := [Cond.code yJ7_fill_53178 cJ7_fill_53178 4 none]
def wsX1_open : List Cond := .code yX1_open cX1_open 2 (some .int) :: ((wsX1_open_r1 ++ wsX1_open_r2) ++ wsX10 ++ wsX00)
def wsX1_setsAtSea : List Cond := .code yX1_setsAtSea cX1_setsAtSea 3 (some .int) :: ([.fieldLink RX1 18 "BoatSets$Harbour" "sets" "I", .fieldLink RX1 11 "BoatSets$Harbour" "fleets" "[LBoatSets$Fleet;", .fieldLink RX1 30 "BoatSets$Fleet" "atSea" "Z"] ++ wsX10 ++ wsX00)
def wsX1_boatsOfKind : List Cond := .code yX1_boatsOfKind cX1_boatsOfKind 4 (some .int) :: ([.fieldLink RX1 18 "BoatSets$Harbour" "sets" "I", .fieldLink RX1 11 "BoatSets$Harbour" "fleets" "[LBoatSets$Fleet;", .methodLink RX1 34 yX0_boatsOfKind, .instanceMethod yX0_boatsOfKind, .selects RX0 yX0_boatsOfKind yX0_boatsOfKind, .initialized RX0, .code yX0_boatsOfKind cX0_boatsOfKind 4 (some .int), .fieldLink RX0 19 "BoatSets$Fleet" "sizes" "[I", .fieldLink RX0 15 "BoatSets$Fleet" "kinds" "[I"] ++ wsX10 ++ wsX00)
def wsX1_units : List Cond := .code yX1_units cX1_units 3 (some .int) :: ([.fieldLink RX1 18 "BoatSets$Harbour" "sets" "I", .fieldLink RX1 11 "BoatSets$Harbour" "fleets" "[LBoatSets$Fleet;", .methodLink RX1 38 yX0_units, .instanceMethod yX0_units, .selects RX0 yX0_units yX0_units, .initialized RX0, .code yX0_units cX0_units 3 (some .int), .fieldLink RX0 15 "BoatSets$Fleet" "kinds" "[I", .methodLink RX0 91 yX0_unitsAs, .instanceMethod yX0_unitsAs, .selects RX0 yX0_unitsAs yX0_unitsAs, .code yX0_unitsAs cX0_unitsAs 3 (some .int), .fieldLink RX0 19 "BoatSets$Fleet" "sizes" "[I", .fieldLink RX0 22 "BoatSets$Fleet" "runs" "[I"] ++ wsX10 ++ wsX00)
def wsX1_numbers : List Cond := .code yX1_numbers cX1_numbers 3 (some .int) :: ([.fieldLink RX1 18 "BoatSets$Harbour" "sets" "I", .fieldLink RX1 11 "BoatSets$Harbour" "fleets" "[LBoatSets$Fleet;", .methodLink RX1 42 yX0_numbers, .instanceMethod yX0_numbers, .selects RX0 yX0_numbers yX0_numbers, .initialized RX0, .code yX0_numbers cX0_numbers 3 (some .int), .fieldLink RX0 19 "BoatSets$Fleet" "sizes" "[I"] ++ wsX10 ++ wsX00)
def wsX1_tollsPaid : List Cond := .code yX1_tollsPaid cX1_tollsPaid 3 (some .int) :: ([.fieldLink RX1 18 "BoatSets$Harbour" "sets" "I", .fieldLink RX1 11 "BoatSets$Harbour" "fleets" "[LBoatSets$Fleet;", .fieldLink RX1 45 "BoatSets$Fleet" "paid" "I"] ++ wsX10 ++ wsX00)
def wsX1_heldByAny : List Cond := .code yX1_heldByAny cX1_heldByAny 5 (some .long) :: ([.fieldLink RX1 18 "BoatSets$Harbour" "sets" "I", .fieldLink RX1 11 "BoatSets$Harbour" "fleets" "[LBoatSets$Fleet;", .fieldLink RX1 58 "BoatSets$Fleet" "words" "[J"] ++ wsX10 ++ wsX00)
def wsX1_differentNumbers : List Cond := .code yX1_differentNumbers cX1_differentNumbers 3 (some .int) :: ([.methodLink RX1 48 yX1_heldByAny, .instanceMethod yX1_heldByAny, .selects RX1 yX1_heldByAny yX1_heldByAny, .initialized RX1, .code yX1_heldByAny cX1_heldByAny 5 (some .long), .fieldLink RX1 18 "BoatSets$Harbour" "sets" "I", .fieldLink RX1 11 "BoatSets$Harbour" "fleets" "[LBoatSets$Fleet;", .fieldLink RX1 58 "BoatSets$Fleet" "words" "[J", .methodLink RX1 52 yJ13_bitCount_95d88, .static yJ13_bitCount_95d88, .initialized RJ13, .code yJ13_bitCount_95d88 cJ13_bitCount_95d88 2 (some .int), .constantLong RJ13 314 (6148914691236517205), .constantLong RJ13 316 (3689348814741910323), .constantLong RJ13 318 (1085102592571150095)] ++ wsX10 ++ wsX00)
def wsX1_holders : List Cond := .code yX1_holders cX1_holders 4 (some .int) :: ([.fieldLink RX1 18 "BoatSets$Harbour" "sets" "I", .fieldLink RX1 11 "BoatSets$Harbour" "fleets" "[LBoatSets$Fleet;", .methodLink RX1 62 yX0_holds, .instanceMethod yX0_holds, .selects RX0 yX0_holds yX0_holds, .initialized RX0, .code yX0_holds cX0_holds 2 (some .boolean), .fieldLink RX0 9 "BoatSets$Fleet" "words" "[J", .static yX4_isNumber, .initialized RX4, .code yX4_isNumber cX4_isNumber 1 (some .boolean)] ++ wsX10 ++ wsX00)
def wsX1_mostHeld : List Cond := .code yX1_mostHeld cX1_mostHeld 8 (some .int) :: ([.methodLink RX1 48 yX1_heldByAny, .instanceMethod yX1_heldByAny, .selects RX1 yX1_heldByAny yX1_heldByAny, .initialized RX1, .code yX1_heldByAny cX1_heldByAny 5 (some .long), .fieldLink RX1 18 "BoatSets$Harbour" "sets" "I", .fieldLink RX1 11 "BoatSets$Harbour" "fleets" "[LBoatSets$Fleet;", .fieldLink RX1 58 "BoatSets$Fleet" "words" "[J", .methodLink RX1 66 yX1_holders, .instanceMethod yX1_holders, .selects RX1 yX1_holders yX1_holders, .code yX1_holders cX1_holders 4 (some .int), .methodLink RX1 62 yX0_holds, .instanceMethod yX0_holds, .selects RX0 yX0_holds yX0_holds, .initialized RX0, .code yX0_holds cX0_holds 2 (some .boolean), .fieldLink RX0 9 "BoatSets$Fleet" "words" "[J", .static yX4_isNumber, .initialized RX4, .code yX4_isNumber cX4_isNumber 1 (some .boolean)] ++ wsX10 ++ wsX00)
def wsX1_numberOfAll : List Cond := .code yX1_numberOfAll cX1_numberOfAll 7 (some .int) :: ([.methodLink RX1 48 yX1_heldByAny, .instanceMethod yX1_heldByAny, .selects RX1 yX1_heldByAny yX1_heldByAny, .initialized RX1, .code yX1_heldByAny cX1_heldByAny 5 (some .long), .fieldLink RX1 18 "BoatSets$Harbour" "sets" "I", .fieldLink RX1 11 "BoatSets$Harbour" "fleets" "[LBoatSets$Fleet;", .fieldLink RX1 58 "BoatSets$Fleet" "words" "[J", .methodLink RX1 66 yX1_holders, .instanceMethod yX1_holders, .selects RX1 yX1_holders yX1_holders, .code yX1_holders cX1_holders 4 (some .int), .methodLink RX1 62 yX0_holds, .instanceMethod yX0_holds, .selects RX0 yX0_holds yX0_holds, .initialized RX0, .code yX0_holds cX0_holds 2 (some .boolean), .fieldLink RX0 9 "BoatSets$Fleet" "words" "[J", .static yX4_isNumber, .initialized RX4, .code yX4_isNumber cX4_isNumber 1 (some .boolean)] ++ wsX10 ++ wsX00)
def wsX2_init_r1 : List Cond := [Cond.methodLink RX2 3 objectInit, Cond.instanceMethod objectInit, Cond.code objectInit ⟨#[0xb1]⟩ 1 none, Cond.classLink RX2 9 RX1, Cond.fieldLink RX2 11 "BoatSets$History" "states" "[LBoatSets$Harbour;", Cond.instantiable RX1 2, Cond.initialized RX1, Cond.methodLink RX2 17 yX1_init, Cond.instanceMethod yX1_init, Cond.code yX1_init cX1_init 2 none, Cond.methodLink RX1 3 objectInit, Cond.classLink RX1 9 RX0, Cond.fieldLink RX1 11 "BoatSets$Harbour" "fleets" "[LBoatSets$Fleet;", Cond.instantiable RX0 7, Cond.initialized RX0, Cond.methodLink RX1 17 yX0_init, Cond.instanceMethod yX0_init, Cond.code yX0_init cX0_init 1 none, Cond.methodLink RX0 3 objectInit, Cond.arrayClass .long, Cond.fieldLink RX0 9 "BoatSets$Fleet" "words" "[J", Cond.arrayClass .int, Cond.fieldLink RX0 15 "BoatSets$Fleet" "kinds" "[I", Cond.fieldLink RX0 19 "BoatSets$Fleet" "sizes" "[I"]
def wsX2_init_r2 : List Cond := [Cond.fieldLink RX0 22 "BoatSets$Fleet" "runs" "[I"]
def wsX2_init : List Cond := .code yX2_init cX2_init 2 none :: ((wsX2_init_r1 ++ wsX2_init_r2) ++ wsX20 ++ wsX10 ++ wsX00)
def wsX2_dropOldest : List Cond := .code yX2_dropOldest cX2_dropOldest 3 none :: ([.fieldLink RX2 11 "BoatSets$History" "states" "[LBoatSets$Harbour;", .fieldLink RX2 18 "BoatSets$History" "size" "I"] ++ wsX20)
def wsX2_push_r1 : List Cond := [Cond.fieldLink RX2 18 "BoatSets$History" "size" "I", Cond.fieldLink RX2 11 "BoatSets$History" "states" "[LBoatSets$Harbour;", Cond.methodLink RX2 22 yX2_dropOldest, Cond.instanceMethod yX2_dropOldest, Cond.selects RX2 yX2_dropOldest yX2_dropOldest, Cond.initialized RX2, Cond.code yX2_dropOldest cX2_dropOldest 3 none, Cond.methodLink RX2 25 yX1_copyFrom, Cond.instanceMethod yX1_copyFrom, Cond.selects RX1 yX1_copyFrom yX1_copyFrom, Cond.initialized RX1, Cond.code yX1_copyFrom cX1_copyFrom 3 none, Cond.fieldLink RX1 18 "BoatSets$Harbour" "sets" "I", Cond.fieldLink RX1 11 "BoatSets$Harbour" "fleets" "[LBoatSets$Fleet;", Cond.methodLink RX1 22 yX0_copyFrom, Cond.instanceMethod yX0_copyFrom, Cond.selects RX0 yX0_copyFrom yX0_copyFrom, Cond.initialized RX0, Cond.code yX0_copyFrom cX0_copyFrom 2 none, Cond.fieldLink RX0 9 "BoatSets$Fleet" "words" "[J", Cond.methodLink RX0 48 arraycopyName, Cond.native arraycopyName, Cond.static arraycopyName, Cond.initialized "java/lang/System"]
def wsX2_push_r2 : List Cond := [Cond.fieldLink RX0 15 "BoatSets$Fleet" "kinds" "[I", Cond.fieldLink RX0 19 "BoatSets$Fleet" "sizes" "[I", Cond.fieldLink RX0 22 "BoatSets$Fleet" "runs" "[I", Cond.fieldLink RX0 28 "BoatSets$Fleet" "purse" "I", Cond.fieldLink RX0 32 "BoatSets$Fleet" "paid" "I", Cond.fieldLink RX0 35 "BoatSets$Fleet" "atSea" "Z"]
def wsX2_push : List Cond := .code yX2_push cX2_push 2 none :: ((wsX2_push_r1 ++ wsX2_push_r2) ++ wsX20 ++ wsX10 ++ wsX00)
def wsX2_popInto_r1 : List Cond := [Cond.fieldLink RX2 18 "BoatSets$History" "size" "I", Cond.fieldLink RX2 11 "BoatSets$History" "states" "[LBoatSets$Harbour;", Cond.methodLink RX2 25 yX1_copyFrom, Cond.instanceMethod yX1_copyFrom, Cond.selects RX1 yX1_copyFrom yX1_copyFrom, Cond.initialized RX1, Cond.code yX1_copyFrom cX1_copyFrom 3 none, Cond.fieldLink RX1 18 "BoatSets$Harbour" "sets" "I", Cond.fieldLink RX1 11 "BoatSets$Harbour" "fleets" "[LBoatSets$Fleet;", Cond.methodLink RX1 22 yX0_copyFrom, Cond.instanceMethod yX0_copyFrom, Cond.selects RX0 yX0_copyFrom yX0_copyFrom, Cond.initialized RX0, Cond.code yX0_copyFrom cX0_copyFrom 2 none, Cond.fieldLink RX0 9 "BoatSets$Fleet" "words" "[J", Cond.methodLink RX0 48 arraycopyName, Cond.native arraycopyName, Cond.static arraycopyName, Cond.initialized "java/lang/System", Cond.fieldLink RX0 15 "BoatSets$Fleet" "kinds" "[I", Cond.fieldLink RX0 19 "BoatSets$Fleet" "sizes" "[I", Cond.fieldLink RX0 22 "BoatSets$Fleet" "runs" "[I", Cond.fieldLink RX0 28 "BoatSets$Fleet" "purse" "I", Cond.fieldLink RX0 32 "BoatSets$Fleet" "paid" "I"]
def wsX2_popInto_r2 : List Cond := [Cond.fieldLink RX0 35 "BoatSets$Fleet" "atSea" "Z"]
def wsX2_popInto : List Cond := .code yX2_popInto cX2_popInto 2 none :: ((wsX2_popInto_r1 ++ wsX2_popInto_r2) ++ wsX20 ++ wsX10 ++ wsX00)
def wsX3_init : List Cond := .code yX3_init cX3_init 1 none :: ([.methodLink RX3 3 objectInit, .instanceMethod objectInit, .code objectInit ⟨#[0xb1]⟩ 1 none, .arrayClass .char, .fieldLink RX3 9 "BoatSets$RangeText" "characters" "[C", .arrayClass .int, .fieldLink RX3 15 "BoatSets$RangeText" "firsts" "[I", .fieldLink RX3 19 "BoatSets$RangeText" "lasts" "[I"] ++ wsX30)
def wsX3_noteRange : List Cond := .code yX3_noteRange cX3_noteRange 3 none :: ([.fieldLink RX3 22 "BoatSets$RangeText" "ranges" "I", .fieldLink RX3 15 "BoatSets$RangeText" "firsts" "[I", .fieldLink RX3 19 "BoatSets$RangeText" "lasts" "[I"] ++ wsX30)
def wsX3_read : List Cond := .code yX3_read cX3_read 7 (some .int) :: ([.fieldLink RX3 22 "BoatSets$RangeText" "ranges" "I", .fieldLink RX3 26 "BoatSets$RangeText" "length" "I", .fieldLink RX3 9 "BoatSets$RangeText" "characters" "[C", .methodLink RX3 29 yX3_noteRange, .instanceMethod yX3_noteRange, .selects RX3 yX3_noteRange yX3_noteRange, .initialized RX3, .code yX3_noteRange cX3_noteRange 3 none, .fieldLink RX3 15 "BoatSets$RangeText" "firsts" "[I", .fieldLink RX3 19 "BoatSets$RangeText" "lasts" "[I"] ++ wsX30)
def wsX3_hasGoodValues : List Cond := .code yX3_hasGoodValues cX3_hasGoodValues 2 (some .boolean) :: ([.fieldLink RX3 22 "BoatSets$RangeText" "ranges" "I", .fieldLink RX3 15 "BoatSets$RangeText" "firsts" "[I", .fieldLink RX3 19 "BoatSets$RangeText" "lasts" "[I", .static yX4_isNumber, .initialized RX4, .code yX4_isNumber cX4_isNumber 1 (some .boolean)] ++ wsX30)
def wsX4_init_r1 : List Cond := [Cond.methodLink RX4 1 objectInit, Cond.instanceMethod objectInit, Cond.code objectInit ⟨#[0xb1]⟩ 1 none, Cond.classLink RX4 7 RX1, Cond.instantiable RX1 2, Cond.initialized RX1, Cond.fieldLink RX4 10 "BoatSets" "now" "LBoatSets$Harbour;", Cond.fieldLink RX4 16 "BoatSets" "snapshot" "LBoatSets$Harbour;", Cond.classLink RX4 19 RX2, Cond.instantiable RX2 2, Cond.initialized RX2, Cond.fieldLink RX4 22 "BoatSets" "past" "LBoatSets$History;", Cond.classLink RX4 26 RX3, Cond.instantiable RX3 5, Cond.initialized RX3, Cond.fieldLink RX4 29 "BoatSets" "text" "LBoatSets$RangeText;", Cond.classLink RX4 33 RX0, Cond.instantiable RX0 7, Cond.initialized RX0, Cond.fieldLink RX4 36 "BoatSets" "trial" "LBoatSets$Fleet;", Cond.fieldLink RX4 40 "BoatSets" "hasSnapshot" "Z", Cond.methodLink RX4 9 yX1_init, Cond.instanceMethod yX1_init, Cond.code yX1_init cX1_init 2 none]
def wsX4_init_r2 : List Cond := [Cond.methodLink RX1 3 objectInit, Cond.classLink RX1 9 RX0, Cond.fieldLink RX1 11 "BoatSets$Harbour" "fleets" "[LBoatSets$Fleet;", Cond.methodLink RX1 17 yX0_init, Cond.instanceMethod yX0_init, Cond.code yX0_init cX0_init 1 none, Cond.methodLink RX0 3 objectInit, Cond.arrayClass .long, Cond.fieldLink RX0 9 "BoatSets$Fleet" "words" "[J", Cond.arrayClass .int, Cond.fieldLink RX0 15 "BoatSets$Fleet" "kinds" "[I", Cond.fieldLink RX0 19 "BoatSets$Fleet" "sizes" "[I", Cond.fieldLink RX0 22 "BoatSets$Fleet" "runs" "[I", Cond.methodLink RX4 21 yX2_init, Cond.instanceMethod yX2_init, Cond.code yX2_init cX2_init 2 none, Cond.methodLink RX2 3 objectInit, Cond.classLink RX2 9 RX1, Cond.fieldLink RX2 11 "BoatSets$History" "states" "[LBoatSets$Harbour;", Cond.methodLink RX2 17 yX1_init, Cond.methodLink RX4 28 yX3_init, Cond.instanceMethod yX3_init, Cond.code yX3_init cX3_init 1 none, Cond.methodLink RX3 3 objectInit]
def wsX4_init_r3 : List Cond := [Cond.arrayClass .char, Cond.fieldLink RX3 9 "BoatSets$RangeText" "characters" "[C", Cond.fieldLink RX3 15 "BoatSets$RangeText" "firsts" "[I", Cond.fieldLink RX3 19 "BoatSets$RangeText" "lasts" "[I", Cond.methodLink RX4 35 yX0_init]
def wsX4_init : List Cond := .code yX4_init cX4_init 1 none :: ((wsX4_init_r1 ++ (wsX4_init_r2 ++ wsX4_init_r3)) ++ wsX10 ++ wsX40 ++ wsX20 ++ wsX30 ++ wsX00)
def wsX4_newSet_r1 : List Cond := [Cond.fieldLink RX4 10 "BoatSets" "now" "LBoatSets$Harbour;", Cond.fieldLink RX4 44 "BoatSets$Harbour" "sets" "I", Cond.fieldLink RX4 22 "BoatSets" "past" "LBoatSets$History;", Cond.methodLink RX4 48 yX2_push, Cond.instanceMethod yX2_push, Cond.selects RX2 yX2_push yX2_push, Cond.initialized RX2, Cond.code yX2_push cX2_push 2 none, Cond.fieldLink RX2 18 "BoatSets$History" "size" "I", Cond.fieldLink RX2 11 "BoatSets$History" "states" "[LBoatSets$Harbour;", Cond.methodLink RX2 22 yX2_dropOldest, Cond.instanceMethod yX2_dropOldest, Cond.selects RX2 yX2_dropOldest yX2_dropOldest, Cond.code yX2_dropOldest cX2_dropOldest 3 none, Cond.methodLink RX2 25 yX1_copyFrom, Cond.instanceMethod yX1_copyFrom, Cond.selects RX1 yX1_copyFrom yX1_copyFrom, Cond.initialized RX1, Cond.code yX1_copyFrom cX1_copyFrom 3 none, Cond.fieldLink RX1 18 "BoatSets$Harbour" "sets" "I", Cond.fieldLink RX1 11 "BoatSets$Harbour" "fleets" "[LBoatSets$Fleet;", Cond.methodLink RX1 22 yX0_copyFrom, Cond.instanceMethod yX0_copyFrom, Cond.selects RX0 yX0_copyFrom yX0_copyFrom]
def wsX4_newSet_r2 : List Cond := [Cond.initialized RX0, Cond.code yX0_copyFrom cX0_copyFrom 2 none, Cond.fieldLink RX0 9 "BoatSets$Fleet" "words" "[J", Cond.methodLink RX0 48 arraycopyName, Cond.native arraycopyName, Cond.static arraycopyName, Cond.initialized "java/lang/System", Cond.fieldLink RX0 15 "BoatSets$Fleet" "kinds" "[I", Cond.fieldLink RX0 19 "BoatSets$Fleet" "sizes" "[I", Cond.fieldLink RX0 22 "BoatSets$Fleet" "runs" "[I", Cond.fieldLink RX0 28 "BoatSets$Fleet" "purse" "I", Cond.fieldLink RX0 32 "BoatSets$Fleet" "paid" "I", Cond.fieldLink RX0 35 "BoatSets$Fleet" "atSea" "Z", Cond.methodLink RX4 52 yX1_open, Cond.instanceMethod yX1_open, Cond.selects RX1 yX1_open yX1_open, Cond.code yX1_open cX1_open 2 (some .int), Cond.methodLink RX1 26 yX0_begin, Cond.instanceMethod yX0_begin, Cond.selects RX0 yX0_begin yX0_begin, Cond.code yX0_begin cX0_begin 2 none, Cond.methodLink RX0 25 yX0_clearNumbers, Cond.instanceMethod yX0_clearNumbers, Cond.selects RX0 yX0_clearNumbers yX0_clearNumbers]
def wsX4_newSet_r3 : List Cond := [Cond.code yX0_clearNumbers cX0_clearNumbers 1 none, Cond.methodLink RX0 39 yJ7_fill_d0a16, Cond.static yJ7_fill_d0a16, Cond.initialized RJ7, Cond.code yJ7_fill_d0a16 cJ7_fill_d0a16 5 none, Cond.methodLink RX0 45 yJ7_fill_53178, Cond.static yJ7_fill_53178, Cond.code yJ7_fill_53178 cJ7_fill_53178 4 none]
def wsX4_newSet : List Cond := .code yX4_newSet cX4_newSet 2 (some .int) :: ((wsX4_newSet_r1 ++ (wsX4_newSet_r2 ++ wsX4_newSet_r3)) ++ wsX40 ++ wsX10 ++ wsX20 ++ wsX00)
def wsX4_isSet : List Cond := .code yX4_isSet cX4_isSet 2 (some .boolean) :: ([.fieldLink RX4 10 "BoatSets" "now" "LBoatSets$Harbour;", .fieldLink RX4 44 "BoatSets$Harbour" "sets" "I"] ++ wsX40 ++ wsX10)
def wsX4_pay_r1 : List Cond := [Cond.fieldLink RX4 10 "BoatSets" "now" "LBoatSets$Harbour;", Cond.fieldLink RX4 60 "BoatSets$Harbour" "fleets" "[LBoatSets$Fleet;", Cond.fieldLink RX4 64 "BoatSets$Fleet" "purse" "I", Cond.fieldLink RX4 22 "BoatSets" "past" "LBoatSets$History;", Cond.methodLink RX4 56 yX4_isSet, Cond.instanceMethod yX4_isSet, Cond.selects RX4 yX4_isSet yX4_isSet, Cond.initialized RX4, Cond.code yX4_isSet cX4_isSet 2 (some .boolean), Cond.fieldLink RX4 44 "BoatSets$Harbour" "sets" "I", Cond.methodLink RX4 48 yX2_push, Cond.instanceMethod yX2_push, Cond.selects RX2 yX2_push yX2_push, Cond.initialized RX2, Cond.code yX2_push cX2_push 2 none, Cond.fieldLink RX2 18 "BoatSets$History" "size" "I", Cond.fieldLink RX2 11 "BoatSets$History" "states" "[LBoatSets$Harbour;", Cond.methodLink RX2 22 yX2_dropOldest, Cond.instanceMethod yX2_dropOldest, Cond.selects RX2 yX2_dropOldest yX2_dropOldest, Cond.code yX2_dropOldest cX2_dropOldest 3 none, Cond.methodLink RX2 25 yX1_copyFrom, Cond.instanceMethod yX1_copyFrom, Cond.selects RX1 yX1_copyFrom yX1_copyFrom]
def wsX4_pay_r2 : List Cond := [Cond.initialized RX1, Cond.code yX1_copyFrom cX1_copyFrom 3 none, Cond.fieldLink RX1 18 "BoatSets$Harbour" "sets" "I", Cond.fieldLink RX1 11 "BoatSets$Harbour" "fleets" "[LBoatSets$Fleet;", Cond.methodLink RX1 22 yX0_copyFrom, Cond.instanceMethod yX0_copyFrom, Cond.selects RX0 yX0_copyFrom yX0_copyFrom, Cond.initialized RX0, Cond.code yX0_copyFrom cX0_copyFrom 2 none, Cond.fieldLink RX0 9 "BoatSets$Fleet" "words" "[J", Cond.methodLink RX0 48 arraycopyName, Cond.native arraycopyName, Cond.static arraycopyName, Cond.initialized "java/lang/System", Cond.fieldLink RX0 15 "BoatSets$Fleet" "kinds" "[I", Cond.fieldLink RX0 19 "BoatSets$Fleet" "sizes" "[I", Cond.fieldLink RX0 22 "BoatSets$Fleet" "runs" "[I", Cond.fieldLink RX0 28 "BoatSets$Fleet" "purse" "I", Cond.fieldLink RX0 32 "BoatSets$Fleet" "paid" "I", Cond.fieldLink RX0 35 "BoatSets$Fleet" "atSea" "Z"]
def wsX4_pay : List Cond := .code yX4_pay cX4_pay 4 (some .int) :: ((wsX4_pay_r1 ++ wsX4_pay_r2) ++ wsX40 ++ wsX10 ++ wsX00 ++ wsX20)
def wsX4_sail_r1 : List Cond := [Cond.fieldLink RX4 10 "BoatSets" "now" "LBoatSets$Harbour;", Cond.fieldLink RX4 60 "BoatSets$Harbour" "fleets" "[LBoatSets$Fleet;", Cond.fieldLink RX4 67 "BoatSets$Fleet" "atSea" "Z", Cond.fieldLink RX4 22 "BoatSets" "past" "LBoatSets$History;", Cond.methodLink RX4 56 yX4_isSet, Cond.instanceMethod yX4_isSet, Cond.selects RX4 yX4_isSet yX4_isSet, Cond.initialized RX4, Cond.code yX4_isSet cX4_isSet 2 (some .boolean), Cond.fieldLink RX4 44 "BoatSets$Harbour" "sets" "I", Cond.methodLink RX4 48 yX2_push, Cond.instanceMethod yX2_push, Cond.selects RX2 yX2_push yX2_push, Cond.initialized RX2, Cond.code yX2_push cX2_push 2 none, Cond.fieldLink RX2 18 "BoatSets$History" "size" "I", Cond.fieldLink RX2 11 "BoatSets$History" "states" "[LBoatSets$Harbour;", Cond.methodLink RX2 22 yX2_dropOldest, Cond.instanceMethod yX2_dropOldest, Cond.selects RX2 yX2_dropOldest yX2_dropOldest, Cond.code yX2_dropOldest cX2_dropOldest 3 none, Cond.methodLink RX2 25 yX1_copyFrom, Cond.instanceMethod yX1_copyFrom, Cond.selects RX1 yX1_copyFrom yX1_copyFrom]
def wsX4_sail_r2 : List Cond := [Cond.initialized RX1, Cond.code yX1_copyFrom cX1_copyFrom 3 none, Cond.fieldLink RX1 18 "BoatSets$Harbour" "sets" "I", Cond.fieldLink RX1 11 "BoatSets$Harbour" "fleets" "[LBoatSets$Fleet;", Cond.methodLink RX1 22 yX0_copyFrom, Cond.instanceMethod yX0_copyFrom, Cond.selects RX0 yX0_copyFrom yX0_copyFrom, Cond.initialized RX0, Cond.code yX0_copyFrom cX0_copyFrom 2 none, Cond.fieldLink RX0 9 "BoatSets$Fleet" "words" "[J", Cond.methodLink RX0 48 arraycopyName, Cond.native arraycopyName, Cond.static arraycopyName, Cond.initialized "java/lang/System", Cond.fieldLink RX0 15 "BoatSets$Fleet" "kinds" "[I", Cond.fieldLink RX0 19 "BoatSets$Fleet" "sizes" "[I", Cond.fieldLink RX0 22 "BoatSets$Fleet" "runs" "[I", Cond.fieldLink RX0 28 "BoatSets$Fleet" "purse" "I", Cond.fieldLink RX0 32 "BoatSets$Fleet" "paid" "I", Cond.fieldLink RX0 35 "BoatSets$Fleet" "atSea" "Z", Cond.methodLink RX4 70 yX0_boats, Cond.instanceMethod yX0_boats, Cond.selects RX0 yX0_boats yX0_boats, Cond.code yX0_boats cX0_boats 1 (some .int)]
def wsX4_sail_r3 : List Cond := [Cond.methodLink RX0 101 yX0_boatsOfKind, Cond.instanceMethod yX0_boatsOfKind, Cond.selects RX0 yX0_boatsOfKind yX0_boatsOfKind, Cond.code yX0_boatsOfKind cX0_boatsOfKind 4 (some .int)]
def wsX4_sail : List Cond := .code yX4_sail cX4_sail 3 (some .int) :: ((wsX4_sail_r1 ++ (wsX4_sail_r2 ++ wsX4_sail_r3)) ++ wsX40 ++ wsX10 ++ wsX00 ++ wsX20)
def wsX4_dock_r1 : List Cond := [Cond.fieldLink RX4 22 "BoatSets" "past" "LBoatSets$History;", Cond.fieldLink RX4 10 "BoatSets" "now" "LBoatSets$Harbour;", Cond.fieldLink RX4 60 "BoatSets$Harbour" "fleets" "[LBoatSets$Fleet;", Cond.methodLink RX4 56 yX4_isSet, Cond.instanceMethod yX4_isSet, Cond.selects RX4 yX4_isSet yX4_isSet, Cond.initialized RX4, Cond.code yX4_isSet cX4_isSet 2 (some .boolean), Cond.fieldLink RX4 44 "BoatSets$Harbour" "sets" "I", Cond.methodLink RX4 48 yX2_push, Cond.instanceMethod yX2_push, Cond.selects RX2 yX2_push yX2_push, Cond.initialized RX2, Cond.code yX2_push cX2_push 2 none, Cond.fieldLink RX2 18 "BoatSets$History" "size" "I", Cond.fieldLink RX2 11 "BoatSets$History" "states" "[LBoatSets$Harbour;", Cond.methodLink RX2 22 yX2_dropOldest, Cond.instanceMethod yX2_dropOldest, Cond.selects RX2 yX2_dropOldest yX2_dropOldest, Cond.code yX2_dropOldest cX2_dropOldest 3 none, Cond.methodLink RX2 25 yX1_copyFrom, Cond.instanceMethod yX1_copyFrom, Cond.selects RX1 yX1_copyFrom yX1_copyFrom, Cond.initialized RX1]
def wsX4_dock_r2 : List Cond := [Cond.code yX1_copyFrom cX1_copyFrom 3 none, Cond.fieldLink RX1 18 "BoatSets$Harbour" "sets" "I", Cond.fieldLink RX1 11 "BoatSets$Harbour" "fleets" "[LBoatSets$Fleet;", Cond.methodLink RX1 22 yX0_copyFrom, Cond.instanceMethod yX0_copyFrom, Cond.selects RX0 yX0_copyFrom yX0_copyFrom, Cond.initialized RX0, Cond.code yX0_copyFrom cX0_copyFrom 2 none, Cond.fieldLink RX0 9 "BoatSets$Fleet" "words" "[J", Cond.methodLink RX0 48 arraycopyName, Cond.native arraycopyName, Cond.static arraycopyName, Cond.initialized "java/lang/System", Cond.fieldLink RX0 15 "BoatSets$Fleet" "kinds" "[I", Cond.fieldLink RX0 19 "BoatSets$Fleet" "sizes" "[I", Cond.fieldLink RX0 22 "BoatSets$Fleet" "runs" "[I", Cond.fieldLink RX0 28 "BoatSets$Fleet" "purse" "I", Cond.fieldLink RX0 32 "BoatSets$Fleet" "paid" "I", Cond.fieldLink RX0 35 "BoatSets$Fleet" "atSea" "Z", Cond.methodLink RX4 74 yX0_enterHarbour, Cond.instanceMethod yX0_enterHarbour, Cond.selects RX0 yX0_enterHarbour yX0_enterHarbour, Cond.code yX0_enterHarbour cX0_enterHarbour 5 (some .int), Cond.methodLink RX0 94 yX0_baySavingMost]
def wsX4_dock_r3 : List Cond := [Cond.instanceMethod yX0_baySavingMost, Cond.selects RX0 yX0_baySavingMost yX0_baySavingMost, Cond.code yX0_baySavingMost cX0_baySavingMost 7 (some .int), Cond.methodLink RX0 88 yX0_bestKind, Cond.instanceMethod yX0_bestKind, Cond.selects RX0 yX0_bestKind yX0_bestKind, Cond.code yX0_bestKind cX0_bestKind 3 (some .int), Cond.methodLink RX0 84 yX0_canHold, Cond.instanceMethod yX0_canHold, Cond.selects RX0 yX0_canHold yX0_canHold, Cond.code yX0_canHold cX0_canHold 3 (some .boolean), Cond.methodLink RX0 91 yX0_unitsAs, Cond.instanceMethod yX0_unitsAs, Cond.selects RX0 yX0_unitsAs yX0_unitsAs, Cond.code yX0_unitsAs cX0_unitsAs 3 (some .int), Cond.methodLink RX0 81 yX0_becomeBest, Cond.instanceMethod yX0_becomeBest, Cond.selects RX0 yX0_becomeBest yX0_becomeBest, Cond.code yX0_becomeBest cX0_becomeBest 4 (some .int)]
def wsX4_dock : List Cond := .code yX4_dock cX4_dock 2 (some .int) :: ((wsX4_dock_r1 ++ (wsX4_dock_r2 ++ wsX4_dock_r3)) ++ wsX40 ++ wsX10 ++ wsX20 ++ wsX00)
def wsX4_settleTrial_r1 : List Cond := [Cond.fieldLink RX4 22 "BoatSets" "past" "LBoatSets$History;", Cond.fieldLink RX4 10 "BoatSets" "now" "LBoatSets$Harbour;", Cond.fieldLink RX4 60 "BoatSets$Harbour" "fleets" "[LBoatSets$Fleet;", Cond.fieldLink RX4 36 "BoatSets" "trial" "LBoatSets$Fleet;", Cond.methodLink RX4 48 yX2_push, Cond.instanceMethod yX2_push, Cond.selects RX2 yX2_push yX2_push, Cond.initialized RX2, Cond.code yX2_push cX2_push 2 none, Cond.fieldLink RX2 18 "BoatSets$History" "size" "I", Cond.fieldLink RX2 11 "BoatSets$History" "states" "[LBoatSets$Harbour;", Cond.methodLink RX2 22 yX2_dropOldest, Cond.instanceMethod yX2_dropOldest, Cond.selects RX2 yX2_dropOldest yX2_dropOldest, Cond.code yX2_dropOldest cX2_dropOldest 3 none, Cond.methodLink RX2 25 yX1_copyFrom, Cond.instanceMethod yX1_copyFrom, Cond.selects RX1 yX1_copyFrom yX1_copyFrom, Cond.initialized RX1, Cond.code yX1_copyFrom cX1_copyFrom 3 none, Cond.fieldLink RX1 18 "BoatSets$Harbour" "sets" "I", Cond.fieldLink RX1 11 "BoatSets$Harbour" "fleets" "[LBoatSets$Fleet;", Cond.methodLink RX1 22 yX0_copyFrom, Cond.instanceMethod yX0_copyFrom]
def wsX4_settleTrial_r2 : List Cond := [Cond.selects RX0 yX0_copyFrom yX0_copyFrom, Cond.initialized RX0, Cond.code yX0_copyFrom cX0_copyFrom 2 none, Cond.fieldLink RX0 9 "BoatSets$Fleet" "words" "[J", Cond.methodLink RX0 48 arraycopyName, Cond.native arraycopyName, Cond.static arraycopyName, Cond.initialized "java/lang/System", Cond.fieldLink RX0 15 "BoatSets$Fleet" "kinds" "[I", Cond.fieldLink RX0 19 "BoatSets$Fleet" "sizes" "[I", Cond.fieldLink RX0 22 "BoatSets$Fleet" "runs" "[I", Cond.fieldLink RX0 28 "BoatSets$Fleet" "purse" "I", Cond.fieldLink RX0 32 "BoatSets$Fleet" "paid" "I", Cond.fieldLink RX0 35 "BoatSets$Fleet" "atSea" "Z", Cond.methodLink RX4 91 yX0_copyFrom]
def wsX4_settleTrial : List Cond := .code yX4_settleTrial cX4_settleTrial 3 (some .int) :: ((wsX4_settleTrial_r1 ++ wsX4_settleTrial_r2) ++ wsX40 ++ wsX10 ++ wsX20 ++ wsX00)
def wsX4_moveRange_r1 : List Cond := [Cond.fieldLink RX4 36 "BoatSets" "trial" "LBoatSets$Fleet;", Cond.fieldLink RX4 10 "BoatSets" "now" "LBoatSets$Harbour;", Cond.fieldLink RX4 60 "BoatSets$Harbour" "fleets" "[LBoatSets$Fleet;", Cond.methodLink RX4 56 yX4_isSet, Cond.instanceMethod yX4_isSet, Cond.selects RX4 yX4_isSet yX4_isSet, Cond.initialized RX4, Cond.code yX4_isSet cX4_isSet 2 (some .boolean), Cond.fieldLink RX4 44 "BoatSets$Harbour" "sets" "I", Cond.methodLink RX4 141 yX4_isNumber, Cond.static yX4_isNumber, Cond.code yX4_isNumber cX4_isNumber 1 (some .boolean), Cond.methodLink RX4 91 yX0_copyFrom, Cond.instanceMethod yX0_copyFrom, Cond.selects RX0 yX0_copyFrom yX0_copyFrom, Cond.initialized RX0, Cond.code yX0_copyFrom cX0_copyFrom 2 none, Cond.fieldLink RX0 9 "BoatSets$Fleet" "words" "[J", Cond.methodLink RX0 48 arraycopyName, Cond.native arraycopyName, Cond.static arraycopyName, Cond.initialized "java/lang/System", Cond.fieldLink RX0 15 "BoatSets$Fleet" "kinds" "[I", Cond.fieldLink RX0 19 "BoatSets$Fleet" "sizes" "[I"]
def wsX4_moveRange_r2 : List Cond := [Cond.fieldLink RX0 22 "BoatSets$Fleet" "runs" "[I", Cond.fieldLink RX0 28 "BoatSets$Fleet" "purse" "I", Cond.fieldLink RX0 32 "BoatSets$Fleet" "paid" "I", Cond.fieldLink RX0 35 "BoatSets$Fleet" "atSea" "Z", Cond.methodLink RX4 125 yX0_move, Cond.instanceMethod yX0_move, Cond.selects RX0 yX0_move yX0_move, Cond.code yX0_move cX0_move 8 (some .int), Cond.methodLink RX0 65 Lib.Math.max.name, Cond.static Lib.Math.max.name, Cond.initialized "java/lang/Math", Cond.code Lib.Math.max.name Lib.Math.max.code 2 (some .int), Cond.methodLink RX0 71 Lib.Math.min.name, Cond.static Lib.Math.min.name, Cond.code Lib.Math.min.name Lib.Math.min.code 2 (some .int), Cond.methodLink RX0 58 yX0_holds, Cond.instanceMethod yX0_holds, Cond.selects RX0 yX0_holds yX0_holds, Cond.code yX0_holds cX0_holds 2 (some .boolean), Cond.methodLink RX0 74 yX0_flip, Cond.instanceMethod yX0_flip, Cond.selects RX0 yX0_flip yX0_flip, Cond.code yX0_flip cX0_flip 4 none, Cond.methodLink RX0 61 yX0_neighboursInBay]
def wsX4_moveRange_r3 : List Cond := [Cond.instanceMethod yX0_neighboursInBay, Cond.selects RX0 yX0_neighboursInBay yX0_neighboursInBay, Cond.code yX0_neighboursInBay cX0_neighboursInBay 4 (some .int), Cond.methodLink RX0 78 yX0_adaptBoat, Cond.instanceMethod yX0_adaptBoat, Cond.selects RX0 yX0_adaptBoat yX0_adaptBoat, Cond.code yX0_adaptBoat cX0_adaptBoat 2 (some .boolean), Cond.methodLink RX0 81 yX0_becomeBest, Cond.instanceMethod yX0_becomeBest, Cond.selects RX0 yX0_becomeBest yX0_becomeBest, Cond.code yX0_becomeBest cX0_becomeBest 4 (some .int), Cond.methodLink RX0 88 yX0_bestKind, Cond.instanceMethod yX0_bestKind, Cond.selects RX0 yX0_bestKind yX0_bestKind, Cond.code yX0_bestKind cX0_bestKind 3 (some .int), Cond.methodLink RX0 84 yX0_canHold, Cond.instanceMethod yX0_canHold, Cond.selects RX0 yX0_canHold yX0_canHold, Cond.code yX0_canHold cX0_canHold 3 (some .boolean), Cond.methodLink RX0 91 yX0_unitsAs, Cond.instanceMethod yX0_unitsAs, Cond.selects RX0 yX0_unitsAs yX0_unitsAs, Cond.code yX0_unitsAs cX0_unitsAs 3 (some .int), Cond.methodLink RX4 129 yX4_settleTrial]
def wsX4_moveRange_r4 : List Cond := [Cond.instanceMethod yX4_settleTrial, Cond.selects RX4 yX4_settleTrial yX4_settleTrial, Cond.code yX4_settleTrial cX4_settleTrial 3 (some .int), Cond.fieldLink RX4 22 "BoatSets" "past" "LBoatSets$History;", Cond.methodLink RX4 48 yX2_push, Cond.instanceMethod yX2_push, Cond.selects RX2 yX2_push yX2_push, Cond.initialized RX2, Cond.code yX2_push cX2_push 2 none, Cond.fieldLink RX2 18 "BoatSets$History" "size" "I", Cond.fieldLink RX2 11 "BoatSets$History" "states" "[LBoatSets$Harbour;", Cond.methodLink RX2 22 yX2_dropOldest, Cond.instanceMethod yX2_dropOldest, Cond.selects RX2 yX2_dropOldest yX2_dropOldest, Cond.code yX2_dropOldest cX2_dropOldest 3 none, Cond.methodLink RX2 25 yX1_copyFrom, Cond.instanceMethod yX1_copyFrom, Cond.selects RX1 yX1_copyFrom yX1_copyFrom, Cond.initialized RX1, Cond.code yX1_copyFrom cX1_copyFrom 3 none, Cond.fieldLink RX1 18 "BoatSets$Harbour" "sets" "I", Cond.fieldLink RX1 11 "BoatSets$Harbour" "fleets" "[LBoatSets$Fleet;", Cond.methodLink RX1 22 yX0_copyFrom]
def wsX4_moveRange : List Cond := .code yX4_moveRange cX4_moveRange 5 (some .int) :: ((wsX4_moveRange_r1 ++ (wsX4_moveRange_r2 ++ (wsX4_moveRange_r3 ++ wsX4_moveRange_r4))) ++ wsX40 ++ wsX10 ++ wsX00 ++ wsX20)
def wsX4_add_r1 : List Cond := [Cond.fieldLink RX4 10 "BoatSets" "now" "LBoatSets$Harbour;", Cond.fieldLink RX4 60 "BoatSets$Harbour" "fleets" "[LBoatSets$Fleet;", Cond.fieldLink RX4 81 "BoatSets$Fleet" "kinds" "[I", Cond.methodLink RX4 77 yX4_moveRange, Cond.instanceMethod yX4_moveRange, Cond.selects RX4 yX4_moveRange yX4_moveRange, Cond.initialized RX4, Cond.code yX4_moveRange cX4_moveRange 5 (some .int), Cond.fieldLink RX4 36 "BoatSets" "trial" "LBoatSets$Fleet;", Cond.methodLink RX4 56 yX4_isSet, Cond.instanceMethod yX4_isSet, Cond.selects RX4 yX4_isSet yX4_isSet, Cond.code yX4_isSet cX4_isSet 2 (some .boolean), Cond.fieldLink RX4 44 "BoatSets$Harbour" "sets" "I", Cond.methodLink RX4 141 yX4_isNumber, Cond.static yX4_isNumber, Cond.code yX4_isNumber cX4_isNumber 1 (some .boolean), Cond.methodLink RX4 91 yX0_copyFrom, Cond.instanceMethod yX0_copyFrom, Cond.selects RX0 yX0_copyFrom yX0_copyFrom, Cond.initialized RX0, Cond.code yX0_copyFrom cX0_copyFrom 2 none, Cond.fieldLink RX0 9 "BoatSets$Fleet" "words" "[J", Cond.methodLink RX0 48 arraycopyName]
def wsX4_add_r2 : List Cond := [Cond.native arraycopyName, Cond.static arraycopyName, Cond.initialized "java/lang/System", Cond.fieldLink RX0 15 "BoatSets$Fleet" "kinds" "[I", Cond.fieldLink RX0 19 "BoatSets$Fleet" "sizes" "[I", Cond.fieldLink RX0 22 "BoatSets$Fleet" "runs" "[I", Cond.fieldLink RX0 28 "BoatSets$Fleet" "purse" "I", Cond.fieldLink RX0 32 "BoatSets$Fleet" "paid" "I", Cond.fieldLink RX0 35 "BoatSets$Fleet" "atSea" "Z", Cond.methodLink RX4 125 yX0_move, Cond.instanceMethod yX0_move, Cond.selects RX0 yX0_move yX0_move, Cond.code yX0_move cX0_move 8 (some .int), Cond.methodLink RX0 65 Lib.Math.max.name, Cond.static Lib.Math.max.name, Cond.initialized "java/lang/Math", Cond.code Lib.Math.max.name Lib.Math.max.code 2 (some .int), Cond.methodLink RX0 71 Lib.Math.min.name, Cond.static Lib.Math.min.name, Cond.code Lib.Math.min.name Lib.Math.min.code 2 (some .int), Cond.methodLink RX0 58 yX0_holds, Cond.instanceMethod yX0_holds, Cond.selects RX0 yX0_holds yX0_holds, Cond.code yX0_holds cX0_holds 2 (some .boolean)]
def wsX4_add_r3 : List Cond := [Cond.methodLink RX0 74 yX0_flip, Cond.instanceMethod yX0_flip, Cond.selects RX0 yX0_flip yX0_flip, Cond.code yX0_flip cX0_flip 4 none, Cond.methodLink RX0 61 yX0_neighboursInBay, Cond.instanceMethod yX0_neighboursInBay, Cond.selects RX0 yX0_neighboursInBay yX0_neighboursInBay, Cond.code yX0_neighboursInBay cX0_neighboursInBay 4 (some .int), Cond.methodLink RX0 78 yX0_adaptBoat, Cond.instanceMethod yX0_adaptBoat, Cond.selects RX0 yX0_adaptBoat yX0_adaptBoat, Cond.code yX0_adaptBoat cX0_adaptBoat 2 (some .boolean), Cond.methodLink RX0 81 yX0_becomeBest, Cond.instanceMethod yX0_becomeBest, Cond.selects RX0 yX0_becomeBest yX0_becomeBest, Cond.code yX0_becomeBest cX0_becomeBest 4 (some .int), Cond.methodLink RX0 88 yX0_bestKind, Cond.instanceMethod yX0_bestKind, Cond.selects RX0 yX0_bestKind yX0_bestKind, Cond.code yX0_bestKind cX0_bestKind 3 (some .int), Cond.methodLink RX0 84 yX0_canHold, Cond.instanceMethod yX0_canHold, Cond.selects RX0 yX0_canHold yX0_canHold, Cond.code yX0_canHold cX0_canHold 3 (some .boolean)]
def wsX4_add_r4 : List Cond := [Cond.methodLink RX0 91 yX0_unitsAs, Cond.instanceMethod yX0_unitsAs, Cond.selects RX0 yX0_unitsAs yX0_unitsAs, Cond.code yX0_unitsAs cX0_unitsAs 3 (some .int), Cond.methodLink RX4 129 yX4_settleTrial, Cond.instanceMethod yX4_settleTrial, Cond.selects RX4 yX4_settleTrial yX4_settleTrial, Cond.code yX4_settleTrial cX4_settleTrial 3 (some .int), Cond.fieldLink RX4 22 "BoatSets" "past" "LBoatSets$History;", Cond.methodLink RX4 48 yX2_push, Cond.instanceMethod yX2_push, Cond.selects RX2 yX2_push yX2_push, Cond.initialized RX2, Cond.code yX2_push cX2_push 2 none, Cond.fieldLink RX2 18 "BoatSets$History" "size" "I", Cond.fieldLink RX2 11 "BoatSets$History" "states" "[LBoatSets$Harbour;", Cond.methodLink RX2 22 yX2_dropOldest, Cond.instanceMethod yX2_dropOldest, Cond.selects RX2 yX2_dropOldest yX2_dropOldest, Cond.code yX2_dropOldest cX2_dropOldest 3 none, Cond.methodLink RX2 25 yX1_copyFrom, Cond.instanceMethod yX1_copyFrom, Cond.selects RX1 yX1_copyFrom yX1_copyFrom, Cond.initialized RX1]
def wsX4_add_r5 : List Cond := [Cond.code yX1_copyFrom cX1_copyFrom 3 none, Cond.fieldLink RX1 18 "BoatSets$Harbour" "sets" "I", Cond.fieldLink RX1 11 "BoatSets$Harbour" "fleets" "[LBoatSets$Fleet;", Cond.methodLink RX1 22 yX0_copyFrom]
def wsX4_add : List Cond := .code yX4_add cX4_add 4 (some .int) :: ((wsX4_add_r1 ++ (wsX4_add_r2 ++ (wsX4_add_r3 ++ (wsX4_add_r4 ++ wsX4_add_r5)))) ++ wsX40 ++ wsX10 ++ wsX00 ++ wsX20)
def wsX4_remove_r1 : List Cond := [Cond.fieldLink RX4 10 "BoatSets" "now" "LBoatSets$Harbour;", Cond.fieldLink RX4 60 "BoatSets$Harbour" "fleets" "[LBoatSets$Fleet;", Cond.fieldLink RX4 85 "BoatSets$Fleet" "sizes" "[I", Cond.methodLink RX4 77 yX4_moveRange, Cond.instanceMethod yX4_moveRange, Cond.selects RX4 yX4_moveRange yX4_moveRange, Cond.initialized RX4, Cond.code yX4_moveRange cX4_moveRange 5 (some .int), Cond.fieldLink RX4 36 "BoatSets" "trial" "LBoatSets$Fleet;", Cond.methodLink RX4 56 yX4_isSet, Cond.instanceMethod yX4_isSet, Cond.selects RX4 yX4_isSet yX4_isSet, Cond.code yX4_isSet cX4_isSet 2 (some .boolean), Cond.fieldLink RX4 44 "BoatSets$Harbour" "sets" "I", Cond.methodLink RX4 141 yX4_isNumber, Cond.static yX4_isNumber, Cond.code yX4_isNumber cX4_isNumber 1 (some .boolean), Cond.methodLink RX4 91 yX0_copyFrom, Cond.instanceMethod yX0_copyFrom, Cond.selects RX0 yX0_copyFrom yX0_copyFrom, Cond.initialized RX0, Cond.code yX0_copyFrom cX0_copyFrom 2 none, Cond.fieldLink RX0 9 "BoatSets$Fleet" "words" "[J", Cond.methodLink RX0 48 arraycopyName]
def wsX4_remove_r2 : List Cond := [Cond.native arraycopyName, Cond.static arraycopyName, Cond.initialized "java/lang/System", Cond.fieldLink RX0 15 "BoatSets$Fleet" "kinds" "[I", Cond.fieldLink RX0 19 "BoatSets$Fleet" "sizes" "[I", Cond.fieldLink RX0 22 "BoatSets$Fleet" "runs" "[I", Cond.fieldLink RX0 28 "BoatSets$Fleet" "purse" "I", Cond.fieldLink RX0 32 "BoatSets$Fleet" "paid" "I", Cond.fieldLink RX0 35 "BoatSets$Fleet" "atSea" "Z", Cond.methodLink RX4 125 yX0_move, Cond.instanceMethod yX0_move, Cond.selects RX0 yX0_move yX0_move, Cond.code yX0_move cX0_move 8 (some .int), Cond.methodLink RX0 65 Lib.Math.max.name, Cond.static Lib.Math.max.name, Cond.initialized "java/lang/Math", Cond.code Lib.Math.max.name Lib.Math.max.code 2 (some .int), Cond.methodLink RX0 71 Lib.Math.min.name, Cond.static Lib.Math.min.name, Cond.code Lib.Math.min.name Lib.Math.min.code 2 (some .int), Cond.methodLink RX0 58 yX0_holds, Cond.instanceMethod yX0_holds, Cond.selects RX0 yX0_holds yX0_holds, Cond.code yX0_holds cX0_holds 2 (some .boolean)]
def wsX4_remove_r3 : List Cond := [Cond.methodLink RX0 74 yX0_flip, Cond.instanceMethod yX0_flip, Cond.selects RX0 yX0_flip yX0_flip, Cond.code yX0_flip cX0_flip 4 none, Cond.methodLink RX0 61 yX0_neighboursInBay, Cond.instanceMethod yX0_neighboursInBay, Cond.selects RX0 yX0_neighboursInBay yX0_neighboursInBay, Cond.code yX0_neighboursInBay cX0_neighboursInBay 4 (some .int), Cond.methodLink RX0 78 yX0_adaptBoat, Cond.instanceMethod yX0_adaptBoat, Cond.selects RX0 yX0_adaptBoat yX0_adaptBoat, Cond.code yX0_adaptBoat cX0_adaptBoat 2 (some .boolean), Cond.methodLink RX0 81 yX0_becomeBest, Cond.instanceMethod yX0_becomeBest, Cond.selects RX0 yX0_becomeBest yX0_becomeBest, Cond.code yX0_becomeBest cX0_becomeBest 4 (some .int), Cond.methodLink RX0 88 yX0_bestKind, Cond.instanceMethod yX0_bestKind, Cond.selects RX0 yX0_bestKind yX0_bestKind, Cond.code yX0_bestKind cX0_bestKind 3 (some .int), Cond.methodLink RX0 84 yX0_canHold, Cond.instanceMethod yX0_canHold, Cond.selects RX0 yX0_canHold yX0_canHold, Cond.code yX0_canHold cX0_canHold 3 (some .boolean)]
def wsX4_remove_r4 : List Cond := [Cond.methodLink RX0 91 yX0_unitsAs, Cond.instanceMethod yX0_unitsAs, Cond.selects RX0 yX0_unitsAs yX0_unitsAs, Cond.code yX0_unitsAs cX0_unitsAs 3 (some .int), Cond.methodLink RX4 129 yX4_settleTrial, Cond.instanceMethod yX4_settleTrial, Cond.selects RX4 yX4_settleTrial yX4_settleTrial, Cond.code yX4_settleTrial cX4_settleTrial 3 (some .int), Cond.fieldLink RX4 22 "BoatSets" "past" "LBoatSets$History;", Cond.methodLink RX4 48 yX2_push, Cond.instanceMethod yX2_push, Cond.selects RX2 yX2_push yX2_push, Cond.initialized RX2, Cond.code yX2_push cX2_push 2 none, Cond.fieldLink RX2 18 "BoatSets$History" "size" "I", Cond.fieldLink RX2 11 "BoatSets$History" "states" "[LBoatSets$Harbour;", Cond.methodLink RX2 22 yX2_dropOldest, Cond.instanceMethod yX2_dropOldest, Cond.selects RX2 yX2_dropOldest yX2_dropOldest, Cond.code yX2_dropOldest cX2_dropOldest 3 none, Cond.methodLink RX2 25 yX1_copyFrom, Cond.instanceMethod yX1_copyFrom, Cond.selects RX1 yX1_copyFrom yX1_copyFrom, Cond.initialized RX1]
def wsX4_remove_r5 : List Cond := [Cond.code yX1_copyFrom cX1_copyFrom 3 none, Cond.fieldLink RX1 18 "BoatSets$Harbour" "sets" "I", Cond.fieldLink RX1 11 "BoatSets$Harbour" "fleets" "[LBoatSets$Fleet;", Cond.methodLink RX1 22 yX0_copyFrom]
def wsX4_remove : List Cond := .code yX4_remove cX4_remove 4 (some .int) :: ((wsX4_remove_r1 ++ (wsX4_remove_r2 ++ (wsX4_remove_r3 ++ (wsX4_remove_r4 ++ wsX4_remove_r5)))) ++ wsX40 ++ wsX10 ++ wsX00 ++ wsX20)
def wsX4_addRange_r1 : List Cond := [Cond.methodLink RX4 77 yX4_moveRange, Cond.instanceMethod yX4_moveRange, Cond.selects RX4 yX4_moveRange yX4_moveRange, Cond.initialized RX4, Cond.code yX4_moveRange cX4_moveRange 5 (some .int), Cond.fieldLink RX4 36 "BoatSets" "trial" "LBoatSets$Fleet;", Cond.fieldLink RX4 10 "BoatSets" "now" "LBoatSets$Harbour;", Cond.fieldLink RX4 60 "BoatSets$Harbour" "fleets" "[LBoatSets$Fleet;", Cond.methodLink RX4 56 yX4_isSet, Cond.instanceMethod yX4_isSet, Cond.selects RX4 yX4_isSet yX4_isSet, Cond.code yX4_isSet cX4_isSet 2 (some .boolean), Cond.fieldLink RX4 44 "BoatSets$Harbour" "sets" "I", Cond.methodLink RX4 141 yX4_isNumber, Cond.static yX4_isNumber, Cond.code yX4_isNumber cX4_isNumber 1 (some .boolean), Cond.methodLink RX4 91 yX0_copyFrom, Cond.instanceMethod yX0_copyFrom, Cond.selects RX0 yX0_copyFrom yX0_copyFrom, Cond.initialized RX0, Cond.code yX0_copyFrom cX0_copyFrom 2 none, Cond.fieldLink RX0 9 "BoatSets$Fleet" "words" "[J", Cond.methodLink RX0 48 arraycopyName, Cond.native arraycopyName]
def wsX4_addRange_r2 : List Cond := [Cond.static arraycopyName, Cond.initialized "java/lang/System", Cond.fieldLink RX0 15 "BoatSets$Fleet" "kinds" "[I", Cond.fieldLink RX0 19 "BoatSets$Fleet" "sizes" "[I", Cond.fieldLink RX0 22 "BoatSets$Fleet" "runs" "[I", Cond.fieldLink RX0 28 "BoatSets$Fleet" "purse" "I", Cond.fieldLink RX0 32 "BoatSets$Fleet" "paid" "I", Cond.fieldLink RX0 35 "BoatSets$Fleet" "atSea" "Z", Cond.methodLink RX4 125 yX0_move, Cond.instanceMethod yX0_move, Cond.selects RX0 yX0_move yX0_move, Cond.code yX0_move cX0_move 8 (some .int), Cond.methodLink RX0 65 Lib.Math.max.name, Cond.static Lib.Math.max.name, Cond.initialized "java/lang/Math", Cond.code Lib.Math.max.name Lib.Math.max.code 2 (some .int), Cond.methodLink RX0 71 Lib.Math.min.name, Cond.static Lib.Math.min.name, Cond.code Lib.Math.min.name Lib.Math.min.code 2 (some .int), Cond.methodLink RX0 58 yX0_holds, Cond.instanceMethod yX0_holds, Cond.selects RX0 yX0_holds yX0_holds, Cond.code yX0_holds cX0_holds 2 (some .boolean), Cond.methodLink RX0 74 yX0_flip]
def wsX4_addRange_r3 : List Cond := [Cond.instanceMethod yX0_flip, Cond.selects RX0 yX0_flip yX0_flip, Cond.code yX0_flip cX0_flip 4 none, Cond.methodLink RX0 61 yX0_neighboursInBay, Cond.instanceMethod yX0_neighboursInBay, Cond.selects RX0 yX0_neighboursInBay yX0_neighboursInBay, Cond.code yX0_neighboursInBay cX0_neighboursInBay 4 (some .int), Cond.methodLink RX0 78 yX0_adaptBoat, Cond.instanceMethod yX0_adaptBoat, Cond.selects RX0 yX0_adaptBoat yX0_adaptBoat, Cond.code yX0_adaptBoat cX0_adaptBoat 2 (some .boolean), Cond.methodLink RX0 81 yX0_becomeBest, Cond.instanceMethod yX0_becomeBest, Cond.selects RX0 yX0_becomeBest yX0_becomeBest, Cond.code yX0_becomeBest cX0_becomeBest 4 (some .int), Cond.methodLink RX0 88 yX0_bestKind, Cond.instanceMethod yX0_bestKind, Cond.selects RX0 yX0_bestKind yX0_bestKind, Cond.code yX0_bestKind cX0_bestKind 3 (some .int), Cond.methodLink RX0 84 yX0_canHold, Cond.instanceMethod yX0_canHold, Cond.selects RX0 yX0_canHold yX0_canHold, Cond.code yX0_canHold cX0_canHold 3 (some .boolean), Cond.methodLink RX0 91 yX0_unitsAs]
def wsX4_addRange_r4 : List Cond := [Cond.instanceMethod yX0_unitsAs, Cond.selects RX0 yX0_unitsAs yX0_unitsAs, Cond.code yX0_unitsAs cX0_unitsAs 3 (some .int), Cond.methodLink RX4 129 yX4_settleTrial, Cond.instanceMethod yX4_settleTrial, Cond.selects RX4 yX4_settleTrial yX4_settleTrial, Cond.code yX4_settleTrial cX4_settleTrial 3 (some .int), Cond.fieldLink RX4 22 "BoatSets" "past" "LBoatSets$History;", Cond.methodLink RX4 48 yX2_push, Cond.instanceMethod yX2_push, Cond.selects RX2 yX2_push yX2_push, Cond.initialized RX2, Cond.code yX2_push cX2_push 2 none, Cond.fieldLink RX2 18 "BoatSets$History" "size" "I", Cond.fieldLink RX2 11 "BoatSets$History" "states" "[LBoatSets$Harbour;", Cond.methodLink RX2 22 yX2_dropOldest, Cond.instanceMethod yX2_dropOldest, Cond.selects RX2 yX2_dropOldest yX2_dropOldest, Cond.code yX2_dropOldest cX2_dropOldest 3 none, Cond.methodLink RX2 25 yX1_copyFrom, Cond.instanceMethod yX1_copyFrom, Cond.selects RX1 yX1_copyFrom yX1_copyFrom, Cond.initialized RX1, Cond.code yX1_copyFrom cX1_copyFrom 3 none]
def wsX4_addRange_r5 : List Cond := [Cond.fieldLink RX1 18 "BoatSets$Harbour" "sets" "I", Cond.fieldLink RX1 11 "BoatSets$Harbour" "fleets" "[LBoatSets$Fleet;", Cond.methodLink RX1 22 yX0_copyFrom]
def wsX4_addRange : List Cond := .code yX4_addRange cX4_addRange 4 (some .int) :: ((wsX4_addRange_r1 ++ (wsX4_addRange_r2 ++ (wsX4_addRange_r3 ++ (wsX4_addRange_r4 ++ wsX4_addRange_r5)))) ++ wsX40 ++ wsX10 ++ wsX00 ++ wsX20)
def wsX4_removeRange_r1 : List Cond := [Cond.methodLink RX4 77 yX4_moveRange, Cond.instanceMethod yX4_moveRange, Cond.selects RX4 yX4_moveRange yX4_moveRange, Cond.initialized RX4, Cond.code yX4_moveRange cX4_moveRange 5 (some .int), Cond.fieldLink RX4 36 "BoatSets" "trial" "LBoatSets$Fleet;", Cond.fieldLink RX4 10 "BoatSets" "now" "LBoatSets$Harbour;", Cond.fieldLink RX4 60 "BoatSets$Harbour" "fleets" "[LBoatSets$Fleet;", Cond.methodLink RX4 56 yX4_isSet, Cond.instanceMethod yX4_isSet, Cond.selects RX4 yX4_isSet yX4_isSet, Cond.code yX4_isSet cX4_isSet 2 (some .boolean), Cond.fieldLink RX4 44 "BoatSets$Harbour" "sets" "I", Cond.methodLink RX4 141 yX4_isNumber, Cond.static yX4_isNumber, Cond.code yX4_isNumber cX4_isNumber 1 (some .boolean), Cond.methodLink RX4 91 yX0_copyFrom, Cond.instanceMethod yX0_copyFrom, Cond.selects RX0 yX0_copyFrom yX0_copyFrom, Cond.initialized RX0, Cond.code yX0_copyFrom cX0_copyFrom 2 none, Cond.fieldLink RX0 9 "BoatSets$Fleet" "words" "[J", Cond.methodLink RX0 48 arraycopyName, Cond.native arraycopyName]
def wsX4_removeRange_r2 : List Cond := [Cond.static arraycopyName, Cond.initialized "java/lang/System", Cond.fieldLink RX0 15 "BoatSets$Fleet" "kinds" "[I", Cond.fieldLink RX0 19 "BoatSets$Fleet" "sizes" "[I", Cond.fieldLink RX0 22 "BoatSets$Fleet" "runs" "[I", Cond.fieldLink RX0 28 "BoatSets$Fleet" "purse" "I", Cond.fieldLink RX0 32 "BoatSets$Fleet" "paid" "I", Cond.fieldLink RX0 35 "BoatSets$Fleet" "atSea" "Z", Cond.methodLink RX4 125 yX0_move, Cond.instanceMethod yX0_move, Cond.selects RX0 yX0_move yX0_move, Cond.code yX0_move cX0_move 8 (some .int), Cond.methodLink RX0 65 Lib.Math.max.name, Cond.static Lib.Math.max.name, Cond.initialized "java/lang/Math", Cond.code Lib.Math.max.name Lib.Math.max.code 2 (some .int), Cond.methodLink RX0 71 Lib.Math.min.name, Cond.static Lib.Math.min.name, Cond.code Lib.Math.min.name Lib.Math.min.code 2 (some .int), Cond.methodLink RX0 58 yX0_holds, Cond.instanceMethod yX0_holds, Cond.selects RX0 yX0_holds yX0_holds, Cond.code yX0_holds cX0_holds 2 (some .boolean), Cond.methodLink RX0 74 yX0_flip]
def wsX4_removeRange_r3 : List Cond := [Cond.instanceMethod yX0_flip, Cond.selects RX0 yX0_flip yX0_flip, Cond.code yX0_flip cX0_flip 4 none, Cond.methodLink RX0 61 yX0_neighboursInBay, Cond.instanceMethod yX0_neighboursInBay, Cond.selects RX0 yX0_neighboursInBay yX0_neighboursInBay, Cond.code yX0_neighboursInBay cX0_neighboursInBay 4 (some .int), Cond.methodLink RX0 78 yX0_adaptBoat, Cond.instanceMethod yX0_adaptBoat, Cond.selects RX0 yX0_adaptBoat yX0_adaptBoat, Cond.code yX0_adaptBoat cX0_adaptBoat 2 (some .boolean), Cond.methodLink RX0 81 yX0_becomeBest, Cond.instanceMethod yX0_becomeBest, Cond.selects RX0 yX0_becomeBest yX0_becomeBest, Cond.code yX0_becomeBest cX0_becomeBest 4 (some .int), Cond.methodLink RX0 88 yX0_bestKind, Cond.instanceMethod yX0_bestKind, Cond.selects RX0 yX0_bestKind yX0_bestKind, Cond.code yX0_bestKind cX0_bestKind 3 (some .int), Cond.methodLink RX0 84 yX0_canHold, Cond.instanceMethod yX0_canHold, Cond.selects RX0 yX0_canHold yX0_canHold, Cond.code yX0_canHold cX0_canHold 3 (some .boolean), Cond.methodLink RX0 91 yX0_unitsAs]
def wsX4_removeRange_r4 : List Cond := [Cond.instanceMethod yX0_unitsAs, Cond.selects RX0 yX0_unitsAs yX0_unitsAs, Cond.code yX0_unitsAs cX0_unitsAs 3 (some .int), Cond.methodLink RX4 129 yX4_settleTrial, Cond.instanceMethod yX4_settleTrial, Cond.selects RX4 yX4_settleTrial yX4_settleTrial, Cond.code yX4_settleTrial cX4_settleTrial 3 (some .int), Cond.fieldLink RX4 22 "BoatSets" "past" "LBoatSets$History;", Cond.methodLink RX4 48 yX2_push, Cond.instanceMethod yX2_push, Cond.selects RX2 yX2_push yX2_push, Cond.initialized RX2, Cond.code yX2_push cX2_push 2 none, Cond.fieldLink RX2 18 "BoatSets$History" "size" "I", Cond.fieldLink RX2 11 "BoatSets$History" "states" "[LBoatSets$Harbour;", Cond.methodLink RX2 22 yX2_dropOldest, Cond.instanceMethod yX2_dropOldest, Cond.selects RX2 yX2_dropOldest yX2_dropOldest, Cond.code yX2_dropOldest cX2_dropOldest 3 none, Cond.methodLink RX2 25 yX1_copyFrom, Cond.instanceMethod yX1_copyFrom, Cond.selects RX1 yX1_copyFrom yX1_copyFrom, Cond.initialized RX1, Cond.code yX1_copyFrom cX1_copyFrom 3 none]
def wsX4_removeRange_r5 : List Cond := [Cond.fieldLink RX1 18 "BoatSets$Harbour" "sets" "I", Cond.fieldLink RX1 11 "BoatSets$Harbour" "fleets" "[LBoatSets$Fleet;", Cond.methodLink RX1 22 yX0_copyFrom]
def wsX4_removeRange : List Cond := .code yX4_removeRange cX4_removeRange 4 (some .int) :: ((wsX4_removeRange_r1 ++ (wsX4_removeRange_r2 ++ (wsX4_removeRange_r3 ++ (wsX4_removeRange_r4 ++ wsX4_removeRange_r5)))) ++ wsX40 ++ wsX10 ++ wsX00 ++ wsX20)
def wsX4_isHow : List Cond := .code yX4_isHow cX4_isHow 1 (some .boolean) :: ([])
def wsX4_combine_r1 : List Cond := [Cond.fieldLink RX4 10 "BoatSets" "now" "LBoatSets$Harbour;", Cond.fieldLink RX4 60 "BoatSets$Harbour" "fleets" "[LBoatSets$Fleet;", Cond.fieldLink RX4 67 "BoatSets$Fleet" "atSea" "Z", Cond.fieldLink RX4 36 "BoatSets" "trial" "LBoatSets$Fleet;", Cond.fieldLink RX4 22 "BoatSets" "past" "LBoatSets$History;", Cond.methodLink RX4 56 yX4_isSet, Cond.instanceMethod yX4_isSet, Cond.selects RX4 yX4_isSet yX4_isSet, Cond.initialized RX4, Cond.code yX4_isSet cX4_isSet 2 (some .boolean), Cond.fieldLink RX4 44 "BoatSets$Harbour" "sets" "I", Cond.methodLink RX4 88 yX4_isHow, Cond.static yX4_isHow, Cond.code yX4_isHow cX4_isHow 1 (some .boolean), Cond.methodLink RX4 91 yX0_copyFrom, Cond.instanceMethod yX0_copyFrom, Cond.selects RX0 yX0_copyFrom yX0_copyFrom, Cond.initialized RX0, Cond.code yX0_copyFrom cX0_copyFrom 2 none, Cond.fieldLink RX0 9 "BoatSets$Fleet" "words" "[J", Cond.methodLink RX0 48 arraycopyName, Cond.native arraycopyName, Cond.static arraycopyName, Cond.initialized "java/lang/System"]
def wsX4_combine_r2 : List Cond := [Cond.fieldLink RX0 15 "BoatSets$Fleet" "kinds" "[I", Cond.fieldLink RX0 19 "BoatSets$Fleet" "sizes" "[I", Cond.fieldLink RX0 22 "BoatSets$Fleet" "runs" "[I", Cond.fieldLink RX0 28 "BoatSets$Fleet" "purse" "I", Cond.fieldLink RX0 32 "BoatSets$Fleet" "paid" "I", Cond.fieldLink RX0 35 "BoatSets$Fleet" "atSea" "Z", Cond.methodLink RX4 95 yX0_fillWith, Cond.instanceMethod yX0_fillWith, Cond.selects RX0 yX0_fillWith yX0_fillWith, Cond.code yX0_fillWith cX0_fillWith 8 none, Cond.methodLink RX0 25 yX0_clearNumbers, Cond.instanceMethod yX0_clearNumbers, Cond.selects RX0 yX0_clearNumbers yX0_clearNumbers, Cond.code yX0_clearNumbers cX0_clearNumbers 1 none, Cond.methodLink RX0 39 yJ7_fill_d0a16, Cond.static yJ7_fill_d0a16, Cond.initialized RJ7, Cond.code yJ7_fill_d0a16 cJ7_fill_d0a16 5 none, Cond.methodLink RX0 45 yJ7_fill_53178, Cond.static yJ7_fill_53178, Cond.code yJ7_fill_53178 cJ7_fill_53178 4 none, Cond.static yX4_join, Cond.code yX4_join cX4_join 5 (some .long), Cond.constantLong RX4 217 (-1)]
def wsX4_combine_r3 : List Cond := [Cond.methodLink RX0 74 yX0_flip, Cond.instanceMethod yX0_flip, Cond.selects RX0 yX0_flip yX0_flip, Cond.code yX0_flip cX0_flip 4 none, Cond.static yX4_isNumber, Cond.code yX4_isNumber cX4_isNumber 1 (some .boolean), Cond.methodLink RX0 58 yX0_holds, Cond.instanceMethod yX0_holds, Cond.selects RX0 yX0_holds yX0_holds, Cond.code yX0_holds cX0_holds 2 (some .boolean), Cond.methodLink RX0 61 yX0_neighboursInBay, Cond.instanceMethod yX0_neighboursInBay, Cond.selects RX0 yX0_neighboursInBay yX0_neighboursInBay, Cond.code yX0_neighboursInBay cX0_neighboursInBay 4 (some .int), Cond.methodLink RX0 88 yX0_bestKind, Cond.instanceMethod yX0_bestKind, Cond.selects RX0 yX0_bestKind yX0_bestKind, Cond.code yX0_bestKind cX0_bestKind 3 (some .int), Cond.methodLink RX0 84 yX0_canHold, Cond.instanceMethod yX0_canHold, Cond.selects RX0 yX0_canHold yX0_canHold, Cond.code yX0_canHold cX0_canHold 3 (some .boolean), Cond.methodLink RX0 91 yX0_unitsAs, Cond.instanceMethod yX0_unitsAs]
def wsX4_combine_r4 : List Cond := [Cond.selects RX0 yX0_unitsAs yX0_unitsAs, Cond.code yX0_unitsAs cX0_unitsAs 3 (some .int), Cond.methodLink RX4 48 yX2_push, Cond.instanceMethod yX2_push, Cond.selects RX2 yX2_push yX2_push, Cond.initialized RX2, Cond.code yX2_push cX2_push 2 none, Cond.fieldLink RX2 18 "BoatSets$History" "size" "I", Cond.fieldLink RX2 11 "BoatSets$History" "states" "[LBoatSets$Harbour;", Cond.methodLink RX2 22 yX2_dropOldest, Cond.instanceMethod yX2_dropOldest, Cond.selects RX2 yX2_dropOldest yX2_dropOldest, Cond.code yX2_dropOldest cX2_dropOldest 3 none, Cond.methodLink RX2 25 yX1_copyFrom, Cond.instanceMethod yX1_copyFrom, Cond.selects RX1 yX1_copyFrom yX1_copyFrom, Cond.initialized RX1, Cond.code yX1_copyFrom cX1_copyFrom 3 none, Cond.fieldLink RX1 18 "BoatSets$Harbour" "sets" "I", Cond.fieldLink RX1 11 "BoatSets$Harbour" "fleets" "[LBoatSets$Fleet;", Cond.methodLink RX1 22 yX0_copyFrom, Cond.methodLink RX4 99 yX0_numbers, Cond.instanceMethod yX0_numbers, Cond.selects RX0 yX0_numbers yX0_numbers]
def wsX4_combine_r5 : List Cond := [Cond.code yX0_numbers cX0_numbers 3 (some .int)]
def wsX4_combine : List Cond := .code yX4_combine cX4_combine 6 (some .int) :: ((wsX4_combine_r1 ++ (wsX4_combine_r2 ++ (wsX4_combine_r3 ++ (wsX4_combine_r4 ++ wsX4_combine_r5)))) ++ wsX40 ++ wsX10 ++ wsX00 ++ wsX20)
def wsX4_type : List Cond := .code yX4_type cX4_type 2 (some .int) :: ([.fieldLink RX4 29 "BoatSets" "text" "LBoatSets$RangeText;", .fieldLink RX4 102 "BoatSets$RangeText" "length" "I", .fieldLink RX4 105 "BoatSets$RangeText" "characters" "[C"] ++ wsX40 ++ wsX30)
def wsX4_clearText : List Cond := .code yX4_clearText cX4_clearText 2 (some .int) :: ([.fieldLink RX4 29 "BoatSets" "text" "LBoatSets$RangeText;", .fieldLink RX4 102 "BoatSets$RangeText" "length" "I"] ++ wsX40 ++ wsX30)
def wsX4_readRanges_r1 : List Cond := [Cond.fieldLink RX4 29 "BoatSets" "text" "LBoatSets$RangeText;", Cond.fieldLink RX4 36 "BoatSets" "trial" "LBoatSets$Fleet;", Cond.fieldLink RX4 10 "BoatSets" "now" "LBoatSets$Harbour;", Cond.fieldLink RX4 60 "BoatSets$Harbour" "fleets" "[LBoatSets$Fleet;", Cond.fieldLink RX4 116 "BoatSets$RangeText" "ranges" "I", Cond.fieldLink RX4 119 "BoatSets$RangeText" "firsts" "[I", Cond.fieldLink RX4 122 "BoatSets$RangeText" "lasts" "[I", Cond.methodLink RX4 56 yX4_isSet, Cond.instanceMethod yX4_isSet, Cond.selects RX4 yX4_isSet yX4_isSet, Cond.initialized RX4, Cond.code yX4_isSet cX4_isSet 2 (some .boolean), Cond.fieldLink RX4 44 "BoatSets$Harbour" "sets" "I", Cond.methodLink RX4 109 yX3_read, Cond.instanceMethod yX3_read, Cond.selects RX3 yX3_read yX3_read, Cond.initialized RX3, Cond.code yX3_read cX3_read 7 (some .int), Cond.fieldLink RX3 22 "BoatSets$RangeText" "ranges" "I", Cond.fieldLink RX3 26 "BoatSets$RangeText" "length" "I", Cond.fieldLink RX3 9 "BoatSets$RangeText" "characters" "[C", Cond.methodLink RX3 29 yX3_noteRange, Cond.instanceMethod yX3_noteRange, Cond.selects RX3 yX3_noteRange yX3_noteRange]
def wsX4_readRanges_r2 : List Cond := [Cond.code yX3_noteRange cX3_noteRange 3 none, Cond.fieldLink RX3 15 "BoatSets$RangeText" "firsts" "[I", Cond.fieldLink RX3 19 "BoatSets$RangeText" "lasts" "[I", Cond.methodLink RX4 112 yX3_hasGoodValues, Cond.instanceMethod yX3_hasGoodValues, Cond.selects RX3 yX3_hasGoodValues yX3_hasGoodValues, Cond.code yX3_hasGoodValues cX3_hasGoodValues 2 (some .boolean), Cond.static yX4_isNumber, Cond.code yX4_isNumber cX4_isNumber 1 (some .boolean), Cond.methodLink RX4 91 yX0_copyFrom, Cond.instanceMethod yX0_copyFrom, Cond.selects RX0 yX0_copyFrom yX0_copyFrom, Cond.initialized RX0, Cond.code yX0_copyFrom cX0_copyFrom 2 none, Cond.fieldLink RX0 9 "BoatSets$Fleet" "words" "[J", Cond.methodLink RX0 48 arraycopyName, Cond.native arraycopyName, Cond.static arraycopyName, Cond.initialized "java/lang/System", Cond.fieldLink RX0 15 "BoatSets$Fleet" "kinds" "[I", Cond.fieldLink RX0 19 "BoatSets$Fleet" "sizes" "[I", Cond.fieldLink RX0 22 "BoatSets$Fleet" "runs" "[I", Cond.fieldLink RX0 28 "BoatSets$Fleet" "purse" "I", Cond.fieldLink RX0 32 "BoatSets$Fleet" "paid" "I"]
def wsX4_readRanges_r3 : List Cond := [Cond.fieldLink RX0 35 "BoatSets$Fleet" "atSea" "Z", Cond.methodLink RX4 125 yX0_move, Cond.instanceMethod yX0_move, Cond.selects RX0 yX0_move yX0_move, Cond.code yX0_move cX0_move 8 (some .int), Cond.methodLink RX0 65 Lib.Math.max.name, Cond.static Lib.Math.max.name, Cond.initialized "java/lang/Math", Cond.code Lib.Math.max.name Lib.Math.max.code 2 (some .int), Cond.methodLink RX0 71 Lib.Math.min.name, Cond.static Lib.Math.min.name, Cond.code Lib.Math.min.name Lib.Math.min.code 2 (some .int), Cond.methodLink RX0 58 yX0_holds, Cond.instanceMethod yX0_holds, Cond.selects RX0 yX0_holds yX0_holds, Cond.code yX0_holds cX0_holds 2 (some .boolean), Cond.methodLink RX0 74 yX0_flip, Cond.instanceMethod yX0_flip, Cond.selects RX0 yX0_flip yX0_flip, Cond.code yX0_flip cX0_flip 4 none, Cond.methodLink RX0 61 yX0_neighboursInBay, Cond.instanceMethod yX0_neighboursInBay, Cond.selects RX0 yX0_neighboursInBay yX0_neighboursInBay, Cond.code yX0_neighboursInBay cX0_neighboursInBay 4 (some .int)]
def wsX4_readRanges_r4 : List Cond := [Cond.methodLink RX0 78 yX0_adaptBoat, Cond.instanceMethod yX0_adaptBoat, Cond.selects RX0 yX0_adaptBoat yX0_adaptBoat, Cond.code yX0_adaptBoat cX0_adaptBoat 2 (some .boolean), Cond.methodLink RX0 81 yX0_becomeBest, Cond.instanceMethod yX0_becomeBest, Cond.selects RX0 yX0_becomeBest yX0_becomeBest, Cond.code yX0_becomeBest cX0_becomeBest 4 (some .int), Cond.methodLink RX0 88 yX0_bestKind, Cond.instanceMethod yX0_bestKind, Cond.selects RX0 yX0_bestKind yX0_bestKind, Cond.code yX0_bestKind cX0_bestKind 3 (some .int), Cond.methodLink RX0 84 yX0_canHold, Cond.instanceMethod yX0_canHold, Cond.selects RX0 yX0_canHold yX0_canHold, Cond.code yX0_canHold cX0_canHold 3 (some .boolean), Cond.methodLink RX0 91 yX0_unitsAs, Cond.instanceMethod yX0_unitsAs, Cond.selects RX0 yX0_unitsAs yX0_unitsAs, Cond.code yX0_unitsAs cX0_unitsAs 3 (some .int), Cond.methodLink RX4 129 yX4_settleTrial, Cond.instanceMethod yX4_settleTrial, Cond.selects RX4 yX4_settleTrial yX4_settleTrial, Cond.code yX4_settleTrial cX4_settleTrial 3 (some .int)]
def wsX4_readRanges_r5 : List Cond := [Cond.fieldLink RX4 22 "BoatSets" "past" "LBoatSets$History;", Cond.methodLink RX4 48 yX2_push, Cond.instanceMethod yX2_push, Cond.selects RX2 yX2_push yX2_push, Cond.initialized RX2, Cond.code yX2_push cX2_push 2 none, Cond.fieldLink RX2 18 "BoatSets$History" "size" "I", Cond.fieldLink RX2 11 "BoatSets$History" "states" "[LBoatSets$Harbour;", Cond.methodLink RX2 22 yX2_dropOldest, Cond.instanceMethod yX2_dropOldest, Cond.selects RX2 yX2_dropOldest yX2_dropOldest, Cond.code yX2_dropOldest cX2_dropOldest 3 none, Cond.methodLink RX2 25 yX1_copyFrom, Cond.instanceMethod yX1_copyFrom, Cond.selects RX1 yX1_copyFrom yX1_copyFrom, Cond.initialized RX1, Cond.code yX1_copyFrom cX1_copyFrom 3 none, Cond.fieldLink RX1 18 "BoatSets$Harbour" "sets" "I", Cond.fieldLink RX1 11 "BoatSets$Harbour" "fleets" "[LBoatSets$Fleet;", Cond.methodLink RX1 22 yX0_copyFrom]
def wsX4_readRanges : List Cond := .code yX4_readRanges cX4_readRanges 6 (some .int) :: ((wsX4_readRanges_r1 ++ (wsX4_readRanges_r2 ++ (wsX4_readRanges_r3 ++ (wsX4_readRanges_r4 ++ wsX4_readRanges_r5)))) ++ wsX40 ++ wsX10 ++ wsX30 ++ wsX00 ++ wsX20)
def wsX4_undo_r1 : List Cond := [Cond.fieldLink RX4 22 "BoatSets" "past" "LBoatSets$History;", Cond.fieldLink RX4 133 "BoatSets$History" "size" "I", Cond.fieldLink RX4 10 "BoatSets" "now" "LBoatSets$Harbour;", Cond.methodLink RX4 136 yX2_popInto, Cond.instanceMethod yX2_popInto, Cond.selects RX2 yX2_popInto yX2_popInto, Cond.initialized RX2, Cond.code yX2_popInto cX2_popInto 2 none, Cond.fieldLink RX2 18 "BoatSets$History" "size" "I", Cond.fieldLink RX2 11 "BoatSets$History" "states" "[LBoatSets$Harbour;", Cond.methodLink RX2 25 yX1_copyFrom, Cond.instanceMethod yX1_copyFrom, Cond.selects RX1 yX1_copyFrom yX1_copyFrom, Cond.initialized RX1, Cond.code yX1_copyFrom cX1_copyFrom 3 none, Cond.fieldLink RX1 18 "BoatSets$Harbour" "sets" "I", Cond.fieldLink RX1 11 "BoatSets$Harbour" "fleets" "[LBoatSets$Fleet;", Cond.methodLink RX1 22 yX0_copyFrom, Cond.instanceMethod yX0_copyFrom, Cond.selects RX0 yX0_copyFrom yX0_copyFrom, Cond.initialized RX0, Cond.code yX0_copyFrom cX0_copyFrom 2 none, Cond.fieldLink RX0 9 "BoatSets$Fleet" "words" "[J", Cond.methodLink RX0 48 arraycopyName]
def wsX4_undo_r2 : List Cond := [Cond.native arraycopyName, Cond.static arraycopyName, Cond.initialized "java/lang/System", Cond.fieldLink RX0 15 "BoatSets$Fleet" "kinds" "[I", Cond.fieldLink RX0 19 "BoatSets$Fleet" "sizes" "[I", Cond.fieldLink RX0 22 "BoatSets$Fleet" "runs" "[I", Cond.fieldLink RX0 28 "BoatSets$Fleet" "purse" "I", Cond.fieldLink RX0 32 "BoatSets$Fleet" "paid" "I", Cond.fieldLink RX0 35 "BoatSets$Fleet" "atSea" "Z"]
def wsX4_undo : List Cond := .code yX4_undo cX4_undo 1 (some .int) :: ((wsX4_undo_r1 ++ wsX4_undo_r2) ++ wsX40 ++ wsX20 ++ wsX10 ++ wsX00)
def wsX4_keep_r1 : List Cond := [Cond.fieldLink RX4 16 "BoatSets" "snapshot" "LBoatSets$Harbour;", Cond.fieldLink RX4 10 "BoatSets" "now" "LBoatSets$Harbour;", Cond.fieldLink RX4 40 "BoatSets" "hasSnapshot" "Z", Cond.fieldLink RX4 44 "BoatSets$Harbour" "sets" "I", Cond.methodLink RX4 139 yX1_copyFrom, Cond.instanceMethod yX1_copyFrom, Cond.selects RX1 yX1_copyFrom yX1_copyFrom, Cond.initialized RX1, Cond.code yX1_copyFrom cX1_copyFrom 3 none, Cond.fieldLink RX1 18 "BoatSets$Harbour" "sets" "I", Cond.fieldLink RX1 11 "BoatSets$Harbour" "fleets" "[LBoatSets$Fleet;", Cond.methodLink RX1 22 yX0_copyFrom, Cond.instanceMethod yX0_copyFrom, Cond.selects RX0 yX0_copyFrom yX0_copyFrom, Cond.initialized RX0, Cond.code yX0_copyFrom cX0_copyFrom 2 none, Cond.fieldLink RX0 9 "BoatSets$Fleet" "words" "[J", Cond.methodLink RX0 48 arraycopyName, Cond.native arraycopyName, Cond.static arraycopyName, Cond.initialized "java/lang/System", Cond.fieldLink RX0 15 "BoatSets$Fleet" "kinds" "[I", Cond.fieldLink RX0 19 "BoatSets$Fleet" "sizes" "[I", Cond.fieldLink RX0 22 "BoatSets$Fleet" "runs" "[I"]
def wsX4_keep_r2 : List Cond := [Cond.fieldLink RX0 28 "BoatSets$Fleet" "purse" "I", Cond.fieldLink RX0 32 "BoatSets$Fleet" "paid" "I", Cond.fieldLink RX0 35 "BoatSets$Fleet" "atSea" "Z"]
def wsX4_keep : List Cond := .code yX4_keep cX4_keep 1 (some .int) :: ((wsX4_keep_r1 ++ wsX4_keep_r2) ++ wsX40 ++ wsX10 ++ wsX00)
def wsX4_restore_r1 : List Cond := [Cond.fieldLink RX4 40 "BoatSets" "hasSnapshot" "Z", Cond.fieldLink RX4 22 "BoatSets" "past" "LBoatSets$History;", Cond.fieldLink RX4 10 "BoatSets" "now" "LBoatSets$Harbour;", Cond.fieldLink RX4 16 "BoatSets" "snapshot" "LBoatSets$Harbour;", Cond.fieldLink RX4 44 "BoatSets$Harbour" "sets" "I", Cond.methodLink RX4 48 yX2_push, Cond.instanceMethod yX2_push, Cond.selects RX2 yX2_push yX2_push, Cond.initialized RX2, Cond.code yX2_push cX2_push 2 none, Cond.fieldLink RX2 18 "BoatSets$History" "size" "I", Cond.fieldLink RX2 11 "BoatSets$History" "states" "[LBoatSets$Harbour;", Cond.methodLink RX2 22 yX2_dropOldest, Cond.instanceMethod yX2_dropOldest, Cond.selects RX2 yX2_dropOldest yX2_dropOldest, Cond.code yX2_dropOldest cX2_dropOldest 3 none, Cond.methodLink RX2 25 yX1_copyFrom, Cond.instanceMethod yX1_copyFrom, Cond.selects RX1 yX1_copyFrom yX1_copyFrom, Cond.initialized RX1, Cond.code yX1_copyFrom cX1_copyFrom 3 none, Cond.fieldLink RX1 18 "BoatSets$Harbour" "sets" "I", Cond.fieldLink RX1 11 "BoatSets$Harbour" "fleets" "[LBoatSets$Fleet;", Cond.methodLink RX1 22 yX0_copyFrom]
def wsX4_restore_r2 : List Cond := [Cond.instanceMethod yX0_copyFrom, Cond.selects RX0 yX0_copyFrom yX0_copyFrom, Cond.initialized RX0, Cond.code yX0_copyFrom cX0_copyFrom 2 none, Cond.fieldLink RX0 9 "BoatSets$Fleet" "words" "[J", Cond.methodLink RX0 48 arraycopyName, Cond.native arraycopyName, Cond.static arraycopyName, Cond.initialized "java/lang/System", Cond.fieldLink RX0 15 "BoatSets$Fleet" "kinds" "[I", Cond.fieldLink RX0 19 "BoatSets$Fleet" "sizes" "[I", Cond.fieldLink RX0 22 "BoatSets$Fleet" "runs" "[I", Cond.fieldLink RX0 28 "BoatSets$Fleet" "purse" "I", Cond.fieldLink RX0 32 "BoatSets$Fleet" "paid" "I", Cond.fieldLink RX0 35 "BoatSets$Fleet" "atSea" "Z", Cond.methodLink RX4 139 yX1_copyFrom]
def wsX4_restore : List Cond := .code yX4_restore cX4_restore 1 (some .int) :: ((wsX4_restore_r1 ++ wsX4_restore_r2) ++ wsX40 ++ wsX10 ++ wsX20 ++ wsX00)
def wsX4_has : List Cond := .code yX4_has cX4_has 3 (some .int) :: ([.fieldLink RX4 10 "BoatSets" "now" "LBoatSets$Harbour;", .fieldLink RX4 60 "BoatSets$Harbour" "fleets" "[LBoatSets$Fleet;", .methodLink RX4 56 yX4_isSet, .instanceMethod yX4_isSet, .selects RX4 yX4_isSet yX4_isSet, .initialized RX4, .code yX4_isSet cX4_isSet 2 (some .boolean), .fieldLink RX4 44 "BoatSets$Harbour" "sets" "I", .methodLink RX4 141 yX4_isNumber, .static yX4_isNumber, .code yX4_isNumber cX4_isNumber 1 (some .boolean), .methodLink RX4 144 yX0_holds, .instanceMethod yX0_holds, .selects RX0 yX0_holds yX0_holds, .initialized RX0, .code yX0_holds cX0_holds 2 (some .boolean), .fieldLink RX0 9 "BoatSets$Fleet" "words" "[J"] ++ wsX40 ++ wsX10 ++ wsX00)
def wsX4_set_r1 : List Cond := [Cond.fieldLink RX4 10 "BoatSets" "now" "LBoatSets$Harbour;", Cond.fieldLink RX4 60 "BoatSets$Harbour" "fleets" "[LBoatSets$Fleet;", Cond.fieldLink RX4 64 "BoatSets$Fleet" "purse" "I", Cond.fieldLink RX4 67 "BoatSets$Fleet" "atSea" "Z", Cond.fieldLink RX4 150 "BoatSets$Fleet" "paid" "I", Cond.methodLink RX4 56 yX4_isSet, Cond.instanceMethod yX4_isSet, Cond.selects RX4 yX4_isSet yX4_isSet, Cond.initialized RX4, Cond.code yX4_isSet cX4_isSet 2 (some .boolean), Cond.fieldLink RX4 44 "BoatSets$Harbour" "sets" "I", Cond.methodLink RX4 99 yX0_numbers, Cond.instanceMethod yX0_numbers, Cond.selects RX0 yX0_numbers yX0_numbers, Cond.initialized RX0, Cond.code yX0_numbers cX0_numbers 3 (some .int), Cond.fieldLink RX0 19 "BoatSets$Fleet" "sizes" "[I", Cond.methodLink RX4 70 yX0_boats, Cond.instanceMethod yX0_boats, Cond.selects RX0 yX0_boats yX0_boats, Cond.code yX0_boats cX0_boats 1 (some .int), Cond.methodLink RX0 101 yX0_boatsOfKind, Cond.instanceMethod yX0_boatsOfKind, Cond.selects RX0 yX0_boatsOfKind yX0_boatsOfKind]
def wsX4_set_r2 : List Cond := [Cond.code yX0_boatsOfKind cX0_boatsOfKind 4 (some .int), Cond.fieldLink RX0 15 "BoatSets$Fleet" "kinds" "[I", Cond.methodLink RX4 147 yX0_units, Cond.instanceMethod yX0_units, Cond.selects RX0 yX0_units yX0_units, Cond.code yX0_units cX0_units 3 (some .int), Cond.methodLink RX0 91 yX0_unitsAs, Cond.instanceMethod yX0_unitsAs, Cond.selects RX0 yX0_unitsAs yX0_unitsAs, Cond.code yX0_unitsAs cX0_unitsAs 3 (some .int), Cond.fieldLink RX0 22 "BoatSets$Fleet" "runs" "[I", Cond.methodLink RX4 153 yX0_allRuns, Cond.instanceMethod yX0_allRuns, Cond.selects RX0 yX0_allRuns yX0_allRuns, Cond.code yX0_allRuns cX0_allRuns 3 (some .int), Cond.methodLink RX4 156 yX0_numberAt, Cond.instanceMethod yX0_numberAt, Cond.selects RX0 yX0_numberAt yX0_numberAt, Cond.code yX0_numberAt cX0_numberAt 5 (some .int), Cond.fieldLink RX0 9 "BoatSets$Fleet" "words" "[J", Cond.methodLink RX0 104 yJ13_bitCount_95d88, Cond.static yJ13_bitCount_95d88, Cond.initialized RJ13, Cond.code yJ13_bitCount_95d88 cJ13_bitCount_95d88 2 (some .int)]
def wsX4_set_r3 : List Cond := [Cond.constantLong RJ13 314 (6148914691236517205), Cond.constantLong RJ13 316 (3689348814741910323), Cond.constantLong RJ13 318 (1085102592571150095), Cond.methodLink RX0 110 yX0_placeOfBit, Cond.static yX0_placeOfBit, Cond.code yX0_placeOfBit cX0_placeOfBit 6 (some .int), Cond.methodLink RX4 159 yX0_bestUnits, Cond.instanceMethod yX0_bestUnits, Cond.selects RX0 yX0_bestUnits yX0_bestUnits, Cond.code yX0_bestUnits cX0_bestUnits 3 (some .int), Cond.methodLink RX0 88 yX0_bestKind, Cond.instanceMethod yX0_bestKind, Cond.selects RX0 yX0_bestKind yX0_bestKind, Cond.code yX0_bestKind cX0_bestKind 3 (some .int), Cond.methodLink RX0 84 yX0_canHold, Cond.instanceMethod yX0_canHold, Cond.selects RX0 yX0_canHold yX0_canHold, Cond.code yX0_canHold cX0_canHold 3 (some .boolean)]
def wsX4_set : List Cond := .code yX4_set cX4_set 4 (some .int) :: ((wsX4_set_r1 ++ (wsX4_set_r2 ++ wsX4_set_r3)) ++ wsX40 ++ wsX10 ++ wsX00)
def wsX4_boat_r1 : List Cond := [Cond.fieldLink RX4 10 "BoatSets" "now" "LBoatSets$Harbour;", Cond.fieldLink RX4 60 "BoatSets$Harbour" "fleets" "[LBoatSets$Fleet;", Cond.fieldLink RX4 85 "BoatSets$Fleet" "sizes" "[I", Cond.fieldLink RX4 81 "BoatSets$Fleet" "kinds" "[I", Cond.fieldLink RX4 162 "BoatSets$Fleet" "runs" "[I", Cond.methodLink RX4 56 yX4_isSet, Cond.instanceMethod yX4_isSet, Cond.selects RX4 yX4_isSet yX4_isSet, Cond.initialized RX4, Cond.code yX4_isSet cX4_isSet 2 (some .boolean), Cond.fieldLink RX4 44 "BoatSets$Harbour" "sets" "I", Cond.methodLink RX4 165 yX0_unitsAs, Cond.instanceMethod yX0_unitsAs, Cond.selects RX0 yX0_unitsAs yX0_unitsAs, Cond.initialized RX0, Cond.code yX0_unitsAs cX0_unitsAs 3 (some .int), Cond.fieldLink RX0 19 "BoatSets$Fleet" "sizes" "[I", Cond.fieldLink RX0 22 "BoatSets$Fleet" "runs" "[I", Cond.methodLink RX4 168 yX0_bestKind, Cond.instanceMethod yX0_bestKind, Cond.selects RX0 yX0_bestKind yX0_bestKind, Cond.code yX0_bestKind cX0_bestKind 3 (some .int), Cond.methodLink RX0 84 yX0_canHold, Cond.instanceMethod yX0_canHold]
def wsX4_boat_r2 : List Cond := [Cond.selects RX0 yX0_canHold yX0_canHold, Cond.code yX0_canHold cX0_canHold 3 (some .boolean), Cond.methodLink RX0 91 yX0_unitsAs, Cond.methodLink RX4 171 yX0_tollToBest, Cond.instanceMethod yX0_tollToBest, Cond.selects RX0 yX0_tollToBest yX0_tollToBest, Cond.code yX0_tollToBest cX0_tollToBest 3 (some .int), Cond.fieldLink RX0 15 "BoatSets$Fleet" "kinds" "[I", Cond.methodLink RX0 88 yX0_bestKind]
def wsX4_boat : List Cond := .code yX4_boat cX4_boat 5 (some .int) :: ((wsX4_boat_r1 ++ wsX4_boat_r2) ++ wsX40 ++ wsX10 ++ wsX00)
def wsX4_rank : List Cond := .code yX4_rank cX4_rank 3 (some .int) :: ([.fieldLink RX4 10 "BoatSets" "now" "LBoatSets$Harbour;", .fieldLink RX4 60 "BoatSets$Harbour" "fleets" "[LBoatSets$Fleet;", .methodLink RX4 56 yX4_isSet, .instanceMethod yX4_isSet, .selects RX4 yX4_isSet yX4_isSet, .initialized RX4, .code yX4_isSet cX4_isSet 2 (some .boolean), .fieldLink RX4 44 "BoatSets$Harbour" "sets" "I", .methodLink RX4 141 yX4_isNumber, .static yX4_isNumber, .code yX4_isNumber cX4_isNumber 1 (some .boolean), .methodLink RX4 174 yX0_numbersBelow, .instanceMethod yX0_numbersBelow, .selects RX0 yX0_numbersBelow yX0_numbersBelow, .initialized RX0, .code yX0_numbersBelow cX0_numbersBelow 6 (some .int), .fieldLink RX0 9 "BoatSets$Fleet" "words" "[J", .methodLink RX0 104 yJ13_bitCount_95d88, .static yJ13_bitCount_95d88, .initialized RJ13, .code yJ13_bitCount_95d88 cJ13_bitCount_95d88 2 (some .int), .constantLong RJ13 314 (6148914691236517205), .constantLong RJ13 316 (3689348814741910323), .constantLong RJ13 318 (1085102592571150095)] ++ wsX40 ++ wsX10 ++ wsX00)
def wsX4_at : List Cond := .code yX4_at cX4_at 3 (some .int) :: ([.fieldLink RX4 10 "BoatSets" "now" "LBoatSets$Harbour;", .fieldLink RX4 60 "BoatSets$Harbour" "fleets" "[LBoatSets$Fleet;", .methodLink RX4 56 yX4_isSet, .instanceMethod yX4_isSet, .selects RX4 yX4_isSet yX4_isSet, .initialized RX4, .code yX4_isSet cX4_isSet 2 (some .boolean), .fieldLink RX4 44 "BoatSets$Harbour" "sets" "I", .methodLink RX4 156 yX0_numberAt, .instanceMethod yX0_numberAt, .selects RX0 yX0_numberAt yX0_numberAt, .initialized RX0, .code yX0_numberAt cX0_numberAt 5 (some .int), .fieldLink RX0 9 "BoatSets$Fleet" "words" "[J", .methodLink RX0 104 yJ13_bitCount_95d88, .static yJ13_bitCount_95d88, .initialized RJ13, .code yJ13_bitCount_95d88 cJ13_bitCount_95d88 2 (some .int), .constantLong RJ13 314 (6148914691236517205), .constantLong RJ13 316 (3689348814741910323), .constantLong RJ13 318 (1085102592571150095), .methodLink RX0 110 yX0_placeOfBit, .static yX0_placeOfBit, .code yX0_placeOfBit cX0_placeOfBit 6 (some .int)] ++ wsX40 ++ wsX10 ++ wsX00)
def wsX4_next_r1 : List Cond := [Cond.fieldLink RX4 10 "BoatSets" "now" "LBoatSets$Harbour;", Cond.fieldLink RX4 60 "BoatSets$Harbour" "fleets" "[LBoatSets$Fleet;", Cond.methodLink RX4 56 yX4_isSet, Cond.instanceMethod yX4_isSet, Cond.selects RX4 yX4_isSet yX4_isSet, Cond.initialized RX4, Cond.code yX4_isSet cX4_isSet 2 (some .boolean), Cond.fieldLink RX4 44 "BoatSets$Harbour" "sets" "I", Cond.methodLink RX4 141 yX4_isNumber, Cond.static yX4_isNumber, Cond.code yX4_isNumber cX4_isNumber 1 (some .boolean), Cond.methodLink RX4 177 yX0_firstFrom, Cond.instanceMethod yX0_firstFrom, Cond.selects RX0 yX0_firstFrom yX0_firstFrom, Cond.initialized RX0, Cond.code yX0_firstFrom cX0_firstFrom 2 (some .int), Cond.methodLink RX0 114 yX0_numbersBelow, Cond.instanceMethod yX0_numbersBelow, Cond.selects RX0 yX0_numbersBelow yX0_numbersBelow, Cond.code yX0_numbersBelow cX0_numbersBelow 6 (some .int), Cond.fieldLink RX0 9 "BoatSets$Fleet" "words" "[J", Cond.methodLink RX0 104 yJ13_bitCount_95d88, Cond.static yJ13_bitCount_95d88, Cond.initialized RJ13]
def wsX4_next_r2 : List Cond := [Cond.code yJ13_bitCount_95d88 cJ13_bitCount_95d88 2 (some .int), Cond.constantLong RJ13 314 (6148914691236517205), Cond.constantLong RJ13 316 (3689348814741910323), Cond.constantLong RJ13 318 (1085102592571150095), Cond.methodLink RX0 117 yX0_numberAt, Cond.instanceMethod yX0_numberAt, Cond.selects RX0 yX0_numberAt yX0_numberAt, Cond.code yX0_numberAt cX0_numberAt 5 (some .int), Cond.methodLink RX0 110 yX0_placeOfBit, Cond.static yX0_placeOfBit, Cond.code yX0_placeOfBit cX0_placeOfBit 6 (some .int)]
def wsX4_next : List Cond := .code yX4_next cX4_next 3 (some .int) :: ((wsX4_next_r1 ++ wsX4_next_r2) ++ wsX40 ++ wsX10 ++ wsX00)
def wsX4_nearest_r1 : List Cond := [Cond.fieldLink RX4 10 "BoatSets" "now" "LBoatSets$Harbour;", Cond.fieldLink RX4 60 "BoatSets$Harbour" "fleets" "[LBoatSets$Fleet;", Cond.methodLink RX4 56 yX4_isSet, Cond.instanceMethod yX4_isSet, Cond.selects RX4 yX4_isSet yX4_isSet, Cond.initialized RX4, Cond.code yX4_isSet cX4_isSet 2 (some .boolean), Cond.fieldLink RX4 44 "BoatSets$Harbour" "sets" "I", Cond.methodLink RX4 141 yX4_isNumber, Cond.static yX4_isNumber, Cond.code yX4_isNumber cX4_isNumber 1 (some .boolean), Cond.methodLink RX4 174 yX0_numbersBelow, Cond.instanceMethod yX0_numbersBelow, Cond.selects RX0 yX0_numbersBelow yX0_numbersBelow, Cond.initialized RX0, Cond.code yX0_numbersBelow cX0_numbersBelow 6 (some .int), Cond.fieldLink RX0 9 "BoatSets$Fleet" "words" "[J", Cond.methodLink RX0 104 yJ13_bitCount_95d88, Cond.static yJ13_bitCount_95d88, Cond.initialized RJ13, Cond.code yJ13_bitCount_95d88 cJ13_bitCount_95d88 2 (some .int), Cond.constantLong RJ13 314 (6148914691236517205), Cond.constantLong RJ13 316 (3689348814741910323), Cond.constantLong RJ13 318 (1085102592571150095)]
def wsX4_nearest_r2 : List Cond := [Cond.methodLink RX4 156 yX0_numberAt, Cond.instanceMethod yX0_numberAt, Cond.selects RX0 yX0_numberAt yX0_numberAt, Cond.code yX0_numberAt cX0_numberAt 5 (some .int), Cond.methodLink RX0 110 yX0_placeOfBit, Cond.static yX0_placeOfBit, Cond.code yX0_placeOfBit cX0_placeOfBit 6 (some .int), Cond.methodLink RX4 177 yX0_firstFrom, Cond.instanceMethod yX0_firstFrom, Cond.selects RX0 yX0_firstFrom yX0_firstFrom, Cond.code yX0_firstFrom cX0_firstFrom 2 (some .int), Cond.methodLink RX0 114 yX0_numbersBelow, Cond.methodLink RX0 117 yX0_numberAt]
def wsX4_nearest : List Cond := .code yX4_nearest cX4_nearest 6 (some .int) :: ((wsX4_nearest_r1 ++ wsX4_nearest_r2) ++ wsX40 ++ wsX10 ++ wsX00)
def wsX4_gap : List Cond := .code yX4_gap cX4_gap 3 (some .int) :: ([.fieldLink RX4 10 "BoatSets" "now" "LBoatSets$Harbour;", .fieldLink RX4 60 "BoatSets$Harbour" "fleets" "[LBoatSets$Fleet;", .methodLink RX4 56 yX4_isSet, .instanceMethod yX4_isSet, .selects RX4 yX4_isSet yX4_isSet, .initialized RX4, .code yX4_isSet cX4_isSet 2 (some .boolean), .fieldLink RX4 44 "BoatSets$Harbour" "sets" "I", .methodLink RX4 180 yX0_firstGap, .instanceMethod yX0_firstGap, .selects RX0 yX0_firstGap yX0_firstGap, .initialized RX0, .code yX0_firstGap cX0_firstGap 4 (some .int), .methodLink RX0 58 yX0_holds, .instanceMethod yX0_holds, .selects RX0 yX0_holds yX0_holds, .code yX0_holds cX0_holds 2 (some .boolean), .fieldLink RX0 9 "BoatSets$Fleet" "words" "[J", .static yX4_isNumber, .code yX4_isNumber cX4_isNumber 1 (some .boolean)] ++ wsX40 ++ wsX10 ++ wsX00)
def wsX4_sizeOf : List Cond := .code yX4_sizeOf cX4_sizeOf 6 (some .int) :: ([.fieldLink RX4 10 "BoatSets" "now" "LBoatSets$Harbour;", .fieldLink RX4 60 "BoatSets$Harbour" "fleets" "[LBoatSets$Fleet;", .fieldLink RX4 183 "BoatSets$Fleet" "words" "[J", .methodLink RX4 56 yX4_isSet, .instanceMethod yX4_isSet, .selects RX4 yX4_isSet yX4_isSet, .initialized RX4, .code yX4_isSet cX4_isSet 2 (some .boolean), .fieldLink RX4 44 "BoatSets$Harbour" "sets" "I", .methodLink RX4 88 yX4_isHow, .static yX4_isHow, .code yX4_isHow cX4_isHow 1 (some .boolean), .methodLink RX4 187 yX4_join, .static yX4_join, .code yX4_join cX4_join 5 (some .long), .constantLong RX4 217 (-1), .methodLink RX4 191 yJ13_bitCount_95d88, .static yJ13_bitCount_95d88, .initialized RJ13, .code yJ13_bitCount_95d88 cJ13_bitCount_95d88 2 (some .int), .constantLong RJ13 314 (6148914691236517205), .constantLong RJ13 316 (3689348814741910323), .constantLong RJ13 318 (1085102592571150095)] ++ wsX40 ++ wsX10 ++ wsX00)
def wsX4_ofAll_r1 : List Cond := [Cond.fieldLink RX4 10 "BoatSets" "now" "LBoatSets$Harbour;", Cond.methodLink RX4 197 yX1_numberOfAll, Cond.instanceMethod yX1_numberOfAll, Cond.selects RX1 yX1_numberOfAll yX1_numberOfAll, Cond.initialized RX1, Cond.code yX1_numberOfAll cX1_numberOfAll 7 (some .int), Cond.methodLink RX1 48 yX1_heldByAny, Cond.instanceMethod yX1_heldByAny, Cond.selects RX1 yX1_heldByAny yX1_heldByAny, Cond.code yX1_heldByAny cX1_heldByAny 5 (some .long), Cond.fieldLink RX1 18 "BoatSets$Harbour" "sets" "I", Cond.fieldLink RX1 11 "BoatSets$Harbour" "fleets" "[LBoatSets$Fleet;", Cond.fieldLink RX1 58 "BoatSets$Fleet" "words" "[J", Cond.methodLink RX1 66 yX1_holders, Cond.instanceMethod yX1_holders, Cond.selects RX1 yX1_holders yX1_holders, Cond.code yX1_holders cX1_holders 4 (some .int), Cond.methodLink RX1 62 yX0_holds, Cond.instanceMethod yX0_holds, Cond.selects RX0 yX0_holds yX0_holds, Cond.initialized RX0, Cond.code yX0_holds cX0_holds 2 (some .boolean), Cond.fieldLink RX0 9 "BoatSets$Fleet" "words" "[J", Cond.static yX4_isNumber]
def wsX4_ofAll_r2 : List Cond := [Cond.initialized RX4, Cond.code yX4_isNumber cX4_isNumber 1 (some .boolean)]
def wsX4_ofAll : List Cond := .code yX4_ofAll cX4_ofAll 2 (some .int) :: ((wsX4_ofAll_r1 ++ wsX4_ofAll_r2) ++ wsX40 ++ wsX10 ++ wsX00)
def wsX4_most_r1 : List Cond := [Cond.fieldLink RX4 10 "BoatSets" "now" "LBoatSets$Harbour;", Cond.methodLink RX4 200 yX1_mostHeld, Cond.instanceMethod yX1_mostHeld, Cond.selects RX1 yX1_mostHeld yX1_mostHeld, Cond.initialized RX1, Cond.code yX1_mostHeld cX1_mostHeld 8 (some .int), Cond.methodLink RX1 48 yX1_heldByAny, Cond.instanceMethod yX1_heldByAny, Cond.selects RX1 yX1_heldByAny yX1_heldByAny, Cond.code yX1_heldByAny cX1_heldByAny 5 (some .long), Cond.fieldLink RX1 18 "BoatSets$Harbour" "sets" "I", Cond.fieldLink RX1 11 "BoatSets$Harbour" "fleets" "[LBoatSets$Fleet;", Cond.fieldLink RX1 58 "BoatSets$Fleet" "words" "[J", Cond.methodLink RX1 66 yX1_holders, Cond.instanceMethod yX1_holders, Cond.selects RX1 yX1_holders yX1_holders, Cond.code yX1_holders cX1_holders 4 (some .int), Cond.methodLink RX1 62 yX0_holds, Cond.instanceMethod yX0_holds, Cond.selects RX0 yX0_holds yX0_holds, Cond.initialized RX0, Cond.code yX0_holds cX0_holds 2 (some .boolean), Cond.fieldLink RX0 9 "BoatSets$Fleet" "words" "[J", Cond.static yX4_isNumber]
def wsX4_most_r2 : List Cond := [Cond.initialized RX4, Cond.code yX4_isNumber cX4_isNumber 1 (some .boolean)]
def wsX4_most : List Cond := .code yX4_most cX4_most 1 (some .int) :: ((wsX4_most_r1 ++ wsX4_most_r2) ++ wsX40 ++ wsX10 ++ wsX00)
def wsX4_tollToDock_r1 : List Cond := [Cond.fieldLink RX4 36 "BoatSets" "trial" "LBoatSets$Fleet;", Cond.fieldLink RX4 10 "BoatSets" "now" "LBoatSets$Harbour;", Cond.fieldLink RX4 60 "BoatSets$Harbour" "fleets" "[LBoatSets$Fleet;", Cond.methodLink RX4 56 yX4_isSet, Cond.instanceMethod yX4_isSet, Cond.selects RX4 yX4_isSet yX4_isSet, Cond.initialized RX4, Cond.code yX4_isSet cX4_isSet 2 (some .boolean), Cond.fieldLink RX4 44 "BoatSets$Harbour" "sets" "I", Cond.methodLink RX4 91 yX0_copyFrom, Cond.instanceMethod yX0_copyFrom, Cond.selects RX0 yX0_copyFrom yX0_copyFrom, Cond.initialized RX0, Cond.code yX0_copyFrom cX0_copyFrom 2 none, Cond.fieldLink RX0 9 "BoatSets$Fleet" "words" "[J", Cond.methodLink RX0 48 arraycopyName, Cond.native arraycopyName, Cond.static arraycopyName, Cond.initialized "java/lang/System", Cond.fieldLink RX0 15 "BoatSets$Fleet" "kinds" "[I", Cond.fieldLink RX0 19 "BoatSets$Fleet" "sizes" "[I", Cond.fieldLink RX0 22 "BoatSets$Fleet" "runs" "[I", Cond.fieldLink RX0 28 "BoatSets$Fleet" "purse" "I", Cond.fieldLink RX0 32 "BoatSets$Fleet" "paid" "I"]
def wsX4_tollToDock_r2 : List Cond := [Cond.fieldLink RX0 35 "BoatSets$Fleet" "atSea" "Z", Cond.methodLink RX4 74 yX0_enterHarbour, Cond.instanceMethod yX0_enterHarbour, Cond.selects RX0 yX0_enterHarbour yX0_enterHarbour, Cond.code yX0_enterHarbour cX0_enterHarbour 5 (some .int), Cond.methodLink RX0 94 yX0_baySavingMost, Cond.instanceMethod yX0_baySavingMost, Cond.selects RX0 yX0_baySavingMost yX0_baySavingMost, Cond.code yX0_baySavingMost cX0_baySavingMost 7 (some .int), Cond.methodLink RX0 88 yX0_bestKind, Cond.instanceMethod yX0_bestKind, Cond.selects RX0 yX0_bestKind yX0_bestKind, Cond.code yX0_bestKind cX0_bestKind 3 (some .int), Cond.methodLink RX0 84 yX0_canHold, Cond.instanceMethod yX0_canHold, Cond.selects RX0 yX0_canHold yX0_canHold, Cond.code yX0_canHold cX0_canHold 3 (some .boolean), Cond.methodLink RX0 91 yX0_unitsAs, Cond.instanceMethod yX0_unitsAs, Cond.selects RX0 yX0_unitsAs yX0_unitsAs, Cond.code yX0_unitsAs cX0_unitsAs 3 (some .int), Cond.methodLink RX0 81 yX0_becomeBest, Cond.instanceMethod yX0_becomeBest, Cond.selects RX0 yX0_becomeBest yX0_becomeBest]
def wsX4_tollToDock_r3 : List Cond := [Cond.code yX0_becomeBest cX0_becomeBest 4 (some .int)]
def wsX4_tollToDock : List Cond := .code yX4_tollToDock cX4_tollToDock 2 (some .int) :: ((wsX4_tollToDock_r1 ++ (wsX4_tollToDock_r2 ++ wsX4_tollToDock_r3)) ++ wsX40 ++ wsX10 ++ wsX00)
def wsX4_count_r1 : List Cond := [Cond.fieldLink RX4 10 "BoatSets" "now" "LBoatSets$Harbour;", Cond.fieldLink RX4 44 "BoatSets$Harbour" "sets" "I", Cond.fieldLink RX4 22 "BoatSets" "past" "LBoatSets$History;", Cond.fieldLink RX4 133 "BoatSets$History" "size" "I", Cond.fieldLink RX4 29 "BoatSets" "text" "LBoatSets$RangeText;", Cond.fieldLink RX4 102 "BoatSets$RangeText" "length" "I", Cond.methodLink RX4 203 yX1_setsAtSea, Cond.instanceMethod yX1_setsAtSea, Cond.selects RX1 yX1_setsAtSea yX1_setsAtSea, Cond.initialized RX1, Cond.code yX1_setsAtSea cX1_setsAtSea 3 (some .int), Cond.fieldLink RX1 18 "BoatSets$Harbour" "sets" "I", Cond.fieldLink RX1 11 "BoatSets$Harbour" "fleets" "[LBoatSets$Fleet;", Cond.fieldLink RX1 30 "BoatSets$Fleet" "atSea" "Z", Cond.methodLink RX4 206 yX1_boatsOfKind, Cond.instanceMethod yX1_boatsOfKind, Cond.selects RX1 yX1_boatsOfKind yX1_boatsOfKind, Cond.code yX1_boatsOfKind cX1_boatsOfKind 4 (some .int), Cond.methodLink RX1 34 yX0_boatsOfKind, Cond.instanceMethod yX0_boatsOfKind, Cond.selects RX0 yX0_boatsOfKind yX0_boatsOfKind, Cond.initialized RX0, Cond.code yX0_boatsOfKind cX0_boatsOfKind 4 (some .int), Cond.fieldLink RX0 19 "BoatSets$Fleet" "sizes" "[I"]
def wsX4_count_r2 : List Cond := [Cond.fieldLink RX0 15 "BoatSets$Fleet" "kinds" "[I", Cond.methodLink RX4 209 yX1_units, Cond.instanceMethod yX1_units, Cond.selects RX1 yX1_units yX1_units, Cond.code yX1_units cX1_units 3 (some .int), Cond.methodLink RX1 38 yX0_units, Cond.instanceMethod yX0_units, Cond.selects RX0 yX0_units yX0_units, Cond.code yX0_units cX0_units 3 (some .int), Cond.methodLink RX0 91 yX0_unitsAs, Cond.instanceMethod yX0_unitsAs, Cond.selects RX0 yX0_unitsAs yX0_unitsAs, Cond.code yX0_unitsAs cX0_unitsAs 3 (some .int), Cond.fieldLink RX0 22 "BoatSets$Fleet" "runs" "[I", Cond.methodLink RX4 210 yX1_numbers, Cond.instanceMethod yX1_numbers, Cond.selects RX1 yX1_numbers yX1_numbers, Cond.code yX1_numbers cX1_numbers 3 (some .int), Cond.methodLink RX1 42 yX0_numbers, Cond.instanceMethod yX0_numbers, Cond.selects RX0 yX0_numbers yX0_numbers, Cond.code yX0_numbers cX0_numbers 3 (some .int), Cond.methodLink RX4 211 yX1_differentNumbers, Cond.instanceMethod yX1_differentNumbers]
def wsX4_count_r3 : List Cond := [Cond.selects RX1 yX1_differentNumbers yX1_differentNumbers, Cond.code yX1_differentNumbers cX1_differentNumbers 3 (some .int), Cond.methodLink RX1 48 yX1_heldByAny, Cond.instanceMethod yX1_heldByAny, Cond.selects RX1 yX1_heldByAny yX1_heldByAny, Cond.code yX1_heldByAny cX1_heldByAny 5 (some .long), Cond.fieldLink RX1 58 "BoatSets$Fleet" "words" "[J", Cond.methodLink RX1 52 yJ13_bitCount_95d88, Cond.static yJ13_bitCount_95d88, Cond.initialized RJ13, Cond.code yJ13_bitCount_95d88 cJ13_bitCount_95d88 2 (some .int), Cond.constantLong RJ13 314 (6148914691236517205), Cond.constantLong RJ13 316 (3689348814741910323), Cond.constantLong RJ13 318 (1085102592571150095), Cond.methodLink RX4 214 yX1_tollsPaid, Cond.instanceMethod yX1_tollsPaid, Cond.selects RX1 yX1_tollsPaid yX1_tollsPaid, Cond.code yX1_tollsPaid cX1_tollsPaid 3 (some .int), Cond.fieldLink RX1 45 "BoatSets$Fleet" "paid" "I"]
def wsX4_count : List Cond := .code yX4_count cX4_count 2 (some .int) :: ((wsX4_count_r1 ++ (wsX4_count_r2 ++ wsX4_count_r3)) ++ wsX40 ++ wsX10 ++ wsX20 ++ wsX30 ++ wsX00)
def wsX5_init : List Cond := .code yX5_init cX5_init 1 none :: ([.methodLink RX5 1 objectInit, .instanceMethod objectInit, .code objectInit ⟨#[0xb1]⟩ 1 none, .arrayClass .int, .fieldLink RX5 7 "BoatSetsModel" "now" "[I", .fieldLink RX5 13 "BoatSetsModel" "past" "[I", .fieldLink RX5 16 "BoatSetsModel" "kept" "[I", .fieldLink RX5 19 "BoatSetsModel" "trial" "[I", .fieldLink RX5 22 "BoatSetsModel" "text" "[I", .fieldLink RX5 25 "BoatSetsModel" "given" "[I", .fieldLink RX5 28 "BoatSetsModel" "numbers" "[I"] ++ wsX50)
def wsX5_in : List Cond := .code yX5_in cX5_in 3 (some .boolean) :: ([])
def wsX5_copies : List Cond := .code yX5_copies cX5_copies 5 none :: ([])
def wsX5_records : List Cond := .code yX5_records cX5_records 3 none :: ([.fieldLink RX5 31 "BoatSetsModel" "pasts" "I", .fieldLink RX5 13 "BoatSetsModel" "past" "[I", .methodLink RX5 35 yX5_copies, .static yX5_copies, .initialized RX5, .code yX5_copies cX5_copies 5 none] ++ wsX50)
def wsX5_isSet : List Cond := .code yX5_isSet cX5_isSet 2 (some .boolean) :: ([.fieldLink RX5 7 "BoatSetsModel" "now" "[I", .methodLink RX5 39 yX5_in, .static yX5_in, .initialized RX5, .code yX5_in cX5_in 3 (some .boolean)] ++ wsX50)
def wsX5_isNumber : List Cond := .code yX5_isNumber cX5_isNumber 1 (some .boolean) :: ([.methodLink RX5 39 yX5_in, .static yX5_in, .initialized RX5, .code yX5_in cX5_in 3 (some .boolean)])
def wsX5_of : List Cond := .code yX5_of cX5_of 3 (some .int) :: ([.fieldLink RX5 7 "BoatSetsModel" "now" "[I"] ++ wsX50)
def wsX5_lays : List Cond := .code yX5_lays cX5_lays 4 none :: ([.fieldLink RX5 7 "BoatSetsModel" "now" "[I"] ++ wsX50)
def wsX5_isIn : List Cond := .code yX5_isIn cX5_isIn 3 (some .boolean) :: ([.methodLink RX5 43 yX5_of, .instanceMethod yX5_of, .selects RX5 yX5_of yX5_of, .initialized RX5, .code yX5_of cX5_of 3 (some .int), .fieldLink RX5 7 "BoatSetsModel" "now" "[I"] ++ wsX50)
def wsX5_puts : List Cond := .code yX5_puts cX5_puts 6 none :: ([.methodLink RX5 43 yX5_of, .instanceMethod yX5_of, .selects RX5 yX5_of yX5_of, .initialized RX5, .code yX5_of cX5_of 3 (some .int), .fieldLink RX5 7 "BoatSetsModel" "now" "[I", .methodLink RX5 47 yX5_lays, .instanceMethod yX5_lays, .selects RX5 yX5_lays yX5_lays, .code yX5_lays cX5_lays 4 none] ++ wsX50)
def wsX5_kindOf : List Cond := .code yX5_kindOf cX5_kindOf 3 (some .int) :: ([.methodLink RX5 43 yX5_of, .instanceMethod yX5_of, .selects RX5 yX5_of yX5_of, .initialized RX5, .code yX5_of cX5_of 3 (some .int), .fieldLink RX5 7 "BoatSetsModel" "now" "[I"] ++ wsX50)
def wsX5_manyIn : List Cond := .code yX5_manyIn cX5_manyIn 5 (some .int) :: ([.methodLink RX5 51 yX5_isIn, .instanceMethod yX5_isIn, .selects RX5 yX5_isIn yX5_isIn, .initialized RX5, .code yX5_isIn cX5_isIn 3 (some .boolean), .methodLink RX5 43 yX5_of, .instanceMethod yX5_of, .selects RX5 yX5_of yX5_of, .code yX5_of cX5_of 3 (some .int), .fieldLink RX5 7 "BoatSetsModel" "now" "[I"] ++ wsX50)
def wsX5_runsIn : List Cond := .code yX5_runsIn cX5_runsIn 5 (some .int) :: ([.methodLink RX5 51 yX5_isIn, .instanceMethod yX5_isIn, .selects RX5 yX5_isIn yX5_isIn, .initialized RX5, .code yX5_isIn cX5_isIn 3 (some .boolean), .methodLink RX5 43 yX5_of, .instanceMethod yX5_of, .selects RX5 yX5_of yX5_of, .code yX5_of cX5_of 3 (some .int), .fieldLink RX5 7 "BoatSetsModel" "now" "[I"] ++ wsX50)
def wsX5_holds : List Cond := .code yX5_holds cX5_holds 3 (some .boolean) :: ([])
def wsX5_units : List Cond := .code yX5_units cX5_units 3 (some .int) :: ([])
def wsX5_best : List Cond := .code yX5_best cX5_best 3 (some .int) :: ([.methodLink RX5 55 yX5_holds, .static yX5_holds, .initialized RX5, .code yX5_holds cX5_holds 3 (some .boolean), .methodLink RX5 58 yX5_units, .static yX5_units, .code yX5_units cX5_units 3 (some .int)])
def wsX5_unitsOf_r1 : List Cond := [Cond.methodLink RX5 62 yX5_kindOf, Cond.instanceMethod yX5_kindOf, Cond.selects RX5 yX5_kindOf yX5_kindOf, Cond.initialized RX5, Cond.code yX5_kindOf cX5_kindOf 3 (some .int), Cond.methodLink RX5 43 yX5_of, Cond.instanceMethod yX5_of, Cond.selects RX5 yX5_of yX5_of, Cond.code yX5_of cX5_of 3 (some .int), Cond.fieldLink RX5 7 "BoatSetsModel" "now" "[I", Cond.methodLink RX5 65 yX5_manyIn, Cond.instanceMethod yX5_manyIn, Cond.selects RX5 yX5_manyIn yX5_manyIn, Cond.code yX5_manyIn cX5_manyIn 5 (some .int), Cond.methodLink RX5 51 yX5_isIn, Cond.instanceMethod yX5_isIn, Cond.selects RX5 yX5_isIn yX5_isIn, Cond.code yX5_isIn cX5_isIn 3 (some .boolean), Cond.methodLink RX5 68 yX5_runsIn, Cond.instanceMethod yX5_runsIn, Cond.selects RX5 yX5_runsIn yX5_runsIn, Cond.code yX5_runsIn cX5_runsIn 5 (some .int), Cond.methodLink RX5 58 yX5_units, Cond.static yX5_units]
def wsX5_unitsOf_r2 : List Cond := [Cond.code yX5_units cX5_units 3 (some .int)]
def wsX5_unitsOf : List Cond := .code yX5_unitsOf cX5_unitsOf 3 (some .int) :: ((wsX5_unitsOf_r1 ++ wsX5_unitsOf_r2) ++ wsX50)
def wsX5_bestOf_r1 : List Cond := [Cond.methodLink RX5 65 yX5_manyIn, Cond.instanceMethod yX5_manyIn, Cond.selects RX5 yX5_manyIn yX5_manyIn, Cond.initialized RX5, Cond.code yX5_manyIn cX5_manyIn 5 (some .int), Cond.methodLink RX5 51 yX5_isIn, Cond.instanceMethod yX5_isIn, Cond.selects RX5 yX5_isIn yX5_isIn, Cond.code yX5_isIn cX5_isIn 3 (some .boolean), Cond.methodLink RX5 43 yX5_of, Cond.instanceMethod yX5_of, Cond.selects RX5 yX5_of yX5_of, Cond.code yX5_of cX5_of 3 (some .int), Cond.fieldLink RX5 7 "BoatSetsModel" "now" "[I", Cond.methodLink RX5 68 yX5_runsIn, Cond.instanceMethod yX5_runsIn, Cond.selects RX5 yX5_runsIn yX5_runsIn, Cond.code yX5_runsIn cX5_runsIn 5 (some .int), Cond.methodLink RX5 71 yX5_best, Cond.static yX5_best, Cond.code yX5_best cX5_best 3 (some .int), Cond.methodLink RX5 55 yX5_holds, Cond.static yX5_holds, Cond.code yX5_holds cX5_holds 3 (some .boolean)]
def wsX5_bestOf_r2 : List Cond := [Cond.methodLink RX5 58 yX5_units, Cond.static yX5_units, Cond.code yX5_units cX5_units 3 (some .int)]
def wsX5_bestOf : List Cond := .code yX5_bestOf cX5_bestOf 3 (some .int) :: ((wsX5_bestOf_r1 ++ wsX5_bestOf_r2) ++ wsX50)
def wsX5_tollOf_r1 : List Cond := [Cond.methodLink RX5 74 yX5_bestOf, Cond.instanceMethod yX5_bestOf, Cond.selects RX5 yX5_bestOf yX5_bestOf, Cond.initialized RX5, Cond.code yX5_bestOf cX5_bestOf 3 (some .int), Cond.methodLink RX5 65 yX5_manyIn, Cond.instanceMethod yX5_manyIn, Cond.selects RX5 yX5_manyIn yX5_manyIn, Cond.code yX5_manyIn cX5_manyIn 5 (some .int), Cond.methodLink RX5 51 yX5_isIn, Cond.instanceMethod yX5_isIn, Cond.selects RX5 yX5_isIn yX5_isIn, Cond.code yX5_isIn cX5_isIn 3 (some .boolean), Cond.methodLink RX5 43 yX5_of, Cond.instanceMethod yX5_of, Cond.selects RX5 yX5_of yX5_of, Cond.code yX5_of cX5_of 3 (some .int), Cond.fieldLink RX5 7 "BoatSetsModel" "now" "[I", Cond.methodLink RX5 68 yX5_runsIn, Cond.instanceMethod yX5_runsIn, Cond.selects RX5 yX5_runsIn yX5_runsIn, Cond.code yX5_runsIn cX5_runsIn 5 (some .int), Cond.methodLink RX5 71 yX5_best, Cond.static yX5_best]
def wsX5_tollOf_r2 : List Cond := [Cond.code yX5_best cX5_best 3 (some .int), Cond.methodLink RX5 55 yX5_holds, Cond.static yX5_holds, Cond.code yX5_holds cX5_holds 3 (some .boolean), Cond.methodLink RX5 58 yX5_units, Cond.static yX5_units, Cond.code yX5_units cX5_units 3 (some .int), Cond.methodLink RX5 62 yX5_kindOf, Cond.instanceMethod yX5_kindOf, Cond.selects RX5 yX5_kindOf yX5_kindOf, Cond.code yX5_kindOf cX5_kindOf 3 (some .int)]
def wsX5_tollOf : List Cond := .code yX5_tollOf cX5_tollOf 4 (some .int) :: ((wsX5_tollOf_r1 ++ wsX5_tollOf_r2) ++ wsX50)
def wsX5_becomes_r1 : List Cond := [Cond.methodLink RX5 77 yX5_tollOf, Cond.instanceMethod yX5_tollOf, Cond.selects RX5 yX5_tollOf yX5_tollOf, Cond.initialized RX5, Cond.code yX5_tollOf cX5_tollOf 4 (some .int), Cond.methodLink RX5 74 yX5_bestOf, Cond.instanceMethod yX5_bestOf, Cond.selects RX5 yX5_bestOf yX5_bestOf, Cond.code yX5_bestOf cX5_bestOf 3 (some .int), Cond.methodLink RX5 65 yX5_manyIn, Cond.instanceMethod yX5_manyIn, Cond.selects RX5 yX5_manyIn yX5_manyIn, Cond.code yX5_manyIn cX5_manyIn 5 (some .int), Cond.methodLink RX5 51 yX5_isIn, Cond.instanceMethod yX5_isIn, Cond.selects RX5 yX5_isIn yX5_isIn, Cond.code yX5_isIn cX5_isIn 3 (some .boolean), Cond.methodLink RX5 43 yX5_of, Cond.instanceMethod yX5_of, Cond.selects RX5 yX5_of yX5_of, Cond.code yX5_of cX5_of 3 (some .int), Cond.fieldLink RX5 7 "BoatSetsModel" "now" "[I", Cond.methodLink RX5 68 yX5_runsIn, Cond.instanceMethod yX5_runsIn]
def wsX5_becomes_r2 : List Cond := [Cond.selects RX5 yX5_runsIn yX5_runsIn, Cond.code yX5_runsIn cX5_runsIn 5 (some .int), Cond.methodLink RX5 71 yX5_best, Cond.static yX5_best, Cond.code yX5_best cX5_best 3 (some .int), Cond.methodLink RX5 55 yX5_holds, Cond.static yX5_holds, Cond.code yX5_holds cX5_holds 3 (some .boolean), Cond.methodLink RX5 58 yX5_units, Cond.static yX5_units, Cond.code yX5_units cX5_units 3 (some .int), Cond.methodLink RX5 62 yX5_kindOf, Cond.instanceMethod yX5_kindOf, Cond.selects RX5 yX5_kindOf yX5_kindOf, Cond.code yX5_kindOf cX5_kindOf 3 (some .int), Cond.methodLink RX5 47 yX5_lays, Cond.instanceMethod yX5_lays, Cond.selects RX5 yX5_lays yX5_lays, Cond.code yX5_lays cX5_lays 4 none]
def wsX5_becomes : List Cond := .code yX5_becomes cX5_becomes 4 none :: ((wsX5_becomes_r1 ++ wsX5_becomes_r2) ++ wsX50)
def wsX5_goes_r1 : List Cond := [Cond.methodLink RX5 80 yX5_puts, Cond.instanceMethod yX5_puts, Cond.selects RX5 yX5_puts yX5_puts, Cond.initialized RX5, Cond.code yX5_puts cX5_puts 6 none, Cond.methodLink RX5 43 yX5_of, Cond.instanceMethod yX5_of, Cond.selects RX5 yX5_of yX5_of, Cond.code yX5_of cX5_of 3 (some .int), Cond.fieldLink RX5 7 "BoatSetsModel" "now" "[I", Cond.methodLink RX5 47 yX5_lays, Cond.instanceMethod yX5_lays, Cond.selects RX5 yX5_lays yX5_lays, Cond.code yX5_lays cX5_lays 4 none, Cond.methodLink RX5 62 yX5_kindOf, Cond.instanceMethod yX5_kindOf, Cond.selects RX5 yX5_kindOf yX5_kindOf, Cond.code yX5_kindOf cX5_kindOf 3 (some .int), Cond.methodLink RX5 65 yX5_manyIn, Cond.instanceMethod yX5_manyIn, Cond.selects RX5 yX5_manyIn yX5_manyIn, Cond.code yX5_manyIn cX5_manyIn 5 (some .int), Cond.methodLink RX5 51 yX5_isIn, Cond.instanceMethod yX5_isIn]
def wsX5_goes_r2 : List Cond := [Cond.selects RX5 yX5_isIn yX5_isIn, Cond.code yX5_isIn cX5_isIn 3 (some .boolean), Cond.methodLink RX5 74 yX5_bestOf, Cond.instanceMethod yX5_bestOf, Cond.selects RX5 yX5_bestOf yX5_bestOf, Cond.code yX5_bestOf cX5_bestOf 3 (some .int), Cond.methodLink RX5 68 yX5_runsIn, Cond.instanceMethod yX5_runsIn, Cond.selects RX5 yX5_runsIn yX5_runsIn, Cond.code yX5_runsIn cX5_runsIn 5 (some .int), Cond.methodLink RX5 71 yX5_best, Cond.static yX5_best, Cond.code yX5_best cX5_best 3 (some .int), Cond.methodLink RX5 55 yX5_holds, Cond.static yX5_holds, Cond.code yX5_holds cX5_holds 3 (some .boolean), Cond.methodLink RX5 58 yX5_units, Cond.static yX5_units, Cond.code yX5_units cX5_units 3 (some .int), Cond.methodLink RX5 77 yX5_tollOf, Cond.instanceMethod yX5_tollOf, Cond.selects RX5 yX5_tollOf yX5_tollOf, Cond.code yX5_tollOf cX5_tollOf 4 (some .int), Cond.methodLink RX5 84 yX5_becomes]
def wsX5_goes_r3 : List Cond := [Cond.instanceMethod yX5_becomes, Cond.selects RX5 yX5_becomes yX5_becomes, Cond.code yX5_becomes cX5_becomes 4 none]
def wsX5_goes : List Cond := .code yX5_goes cX5_goes 5 (some .boolean) :: ((wsX5_goes_r1 ++ (wsX5_goes_r2 ++ wsX5_goes_r3)) ++ wsX50)
def wsX5_newSet : List Cond := .code yX5_newSet cX5_newSet 2 (some .int) :: ([.fieldLink RX5 7 "BoatSetsModel" "now" "[I", .methodLink RX5 39 yX5_in, .static yX5_in, .initialized RX5, .code yX5_in cX5_in 3 (some .boolean), .methodLink RX5 88 yX5_records, .instanceMethod yX5_records, .selects RX5 yX5_records yX5_records, .code yX5_records cX5_records 3 none, .fieldLink RX5 31 "BoatSetsModel" "pasts" "I", .fieldLink RX5 13 "BoatSetsModel" "past" "[I", .methodLink RX5 35 yX5_copies, .static yX5_copies, .code yX5_copies cX5_copies 5 none, .methodLink RX5 47 yX5_lays, .instanceMethod yX5_lays, .selects RX5 yX5_lays yX5_lays, .code yX5_lays cX5_lays 4 none] ++ wsX50)
def wsX5_pay_r1 : List Cond := [Cond.fieldLink RX5 7 "BoatSetsModel" "now" "[I", Cond.methodLink RX5 92 yX5_isSet, Cond.instanceMethod yX5_isSet, Cond.selects RX5 yX5_isSet yX5_isSet, Cond.initialized RX5, Cond.code yX5_isSet cX5_isSet 2 (some .boolean), Cond.methodLink RX5 39 yX5_in, Cond.static yX5_in, Cond.code yX5_in cX5_in 3 (some .boolean), Cond.methodLink RX5 43 yX5_of, Cond.instanceMethod yX5_of, Cond.selects RX5 yX5_of yX5_of, Cond.code yX5_of cX5_of 3 (some .int), Cond.methodLink RX5 88 yX5_records, Cond.instanceMethod yX5_records, Cond.selects RX5 yX5_records yX5_records, Cond.code yX5_records cX5_records 3 none, Cond.fieldLink RX5 31 "BoatSetsModel" "pasts" "I", Cond.fieldLink RX5 13 "BoatSetsModel" "past" "[I", Cond.methodLink RX5 35 yX5_copies, Cond.static yX5_copies, Cond.code yX5_copies cX5_copies 5 none, Cond.methodLink RX5 47 yX5_lays, Cond.instanceMethod yX5_lays]
def wsX5_pay_r2 : List Cond := [Cond.selects RX5 yX5_lays yX5_lays, Cond.code yX5_lays cX5_lays 4 none]
def wsX5_pay : List Cond := .code yX5_pay cX5_pay 3 (some .int) :: ((wsX5_pay_r1 ++ wsX5_pay_r2) ++ wsX50)
def wsX5_boatsOf : List Cond := .code yX5_boatsOf cX5_boatsOf 4 (some .int) :: ([.methodLink RX5 62 yX5_kindOf, .instanceMethod yX5_kindOf, .selects RX5 yX5_kindOf yX5_kindOf, .initialized RX5, .code yX5_kindOf cX5_kindOf 3 (some .int), .methodLink RX5 43 yX5_of, .instanceMethod yX5_of, .selects RX5 yX5_of yX5_of, .code yX5_of cX5_of 3 (some .int), .fieldLink RX5 7 "BoatSetsModel" "now" "[I"] ++ wsX50)
def wsX5_sail_r1 : List Cond := [Cond.fieldLink RX5 7 "BoatSetsModel" "now" "[I", Cond.methodLink RX5 92 yX5_isSet, Cond.instanceMethod yX5_isSet, Cond.selects RX5 yX5_isSet yX5_isSet, Cond.initialized RX5, Cond.code yX5_isSet cX5_isSet 2 (some .boolean), Cond.methodLink RX5 39 yX5_in, Cond.static yX5_in, Cond.code yX5_in cX5_in 3 (some .boolean), Cond.methodLink RX5 43 yX5_of, Cond.instanceMethod yX5_of, Cond.selects RX5 yX5_of yX5_of, Cond.code yX5_of cX5_of 3 (some .int), Cond.methodLink RX5 88 yX5_records, Cond.instanceMethod yX5_records, Cond.selects RX5 yX5_records yX5_records, Cond.code yX5_records cX5_records 3 none, Cond.fieldLink RX5 31 "BoatSetsModel" "pasts" "I", Cond.fieldLink RX5 13 "BoatSetsModel" "past" "[I", Cond.methodLink RX5 35 yX5_copies, Cond.static yX5_copies, Cond.code yX5_copies cX5_copies 5 none, Cond.methodLink RX5 47 yX5_lays, Cond.instanceMethod yX5_lays]
def wsX5_sail_r2 : List Cond := [Cond.selects RX5 yX5_lays yX5_lays, Cond.code yX5_lays cX5_lays 4 none, Cond.methodLink RX5 96 yX5_boatsOf, Cond.instanceMethod yX5_boatsOf, Cond.selects RX5 yX5_boatsOf yX5_boatsOf, Cond.code yX5_boatsOf cX5_boatsOf 4 (some .int), Cond.methodLink RX5 62 yX5_kindOf, Cond.instanceMethod yX5_kindOf, Cond.selects RX5 yX5_kindOf yX5_kindOf, Cond.code yX5_kindOf cX5_kindOf 3 (some .int)]
def wsX5_sail : List Cond := .code yX5_sail cX5_sail 2 (some .int) :: ((wsX5_sail_r1 ++ wsX5_sail_r2) ++ wsX50)
def wsX5_nextToDock_r1 : List Cond := [Cond.fieldLink RX5 100 "BoatSetsModel" "looked" "I", Cond.methodLink RX5 62 yX5_kindOf, Cond.instanceMethod yX5_kindOf, Cond.selects RX5 yX5_kindOf yX5_kindOf, Cond.initialized RX5, Cond.code yX5_kindOf cX5_kindOf 3 (some .int), Cond.methodLink RX5 43 yX5_of, Cond.instanceMethod yX5_of, Cond.selects RX5 yX5_of yX5_of, Cond.code yX5_of cX5_of 3 (some .int), Cond.fieldLink RX5 7 "BoatSetsModel" "now" "[I", Cond.methodLink RX5 77 yX5_tollOf, Cond.instanceMethod yX5_tollOf, Cond.selects RX5 yX5_tollOf yX5_tollOf, Cond.code yX5_tollOf cX5_tollOf 4 (some .int), Cond.methodLink RX5 74 yX5_bestOf, Cond.instanceMethod yX5_bestOf, Cond.selects RX5 yX5_bestOf yX5_bestOf, Cond.code yX5_bestOf cX5_bestOf 3 (some .int), Cond.methodLink RX5 65 yX5_manyIn, Cond.instanceMethod yX5_manyIn, Cond.selects RX5 yX5_manyIn yX5_manyIn, Cond.code yX5_manyIn cX5_manyIn 5 (some .int), Cond.methodLink RX5 51 yX5_isIn]
def wsX5_nextToDock_r2 : List Cond := [Cond.instanceMethod yX5_isIn, Cond.selects RX5 yX5_isIn yX5_isIn, Cond.code yX5_isIn cX5_isIn 3 (some .boolean), Cond.methodLink RX5 68 yX5_runsIn, Cond.instanceMethod yX5_runsIn, Cond.selects RX5 yX5_runsIn yX5_runsIn, Cond.code yX5_runsIn cX5_runsIn 5 (some .int), Cond.methodLink RX5 71 yX5_best, Cond.static yX5_best, Cond.code yX5_best cX5_best 3 (some .int), Cond.methodLink RX5 55 yX5_holds, Cond.static yX5_holds, Cond.code yX5_holds cX5_holds 3 (some .boolean), Cond.methodLink RX5 58 yX5_units, Cond.static yX5_units, Cond.code yX5_units cX5_units 3 (some .int), Cond.methodLink RX5 103 yX5_unitsOf, Cond.instanceMethod yX5_unitsOf, Cond.selects RX5 yX5_unitsOf yX5_unitsOf, Cond.code yX5_unitsOf cX5_unitsOf 3 (some .int)]
def wsX5_nextToDock : List Cond := .code yX5_nextToDock cX5_nextToDock 7 (some .int) :: ((wsX5_nextToDock_r1 ++ wsX5_nextToDock_r2) ++ wsX50)
def wsX5_docks_r1 : List Cond := [Cond.fieldLink RX5 100 "BoatSetsModel" "looked" "I", Cond.methodLink RX5 43 yX5_of, Cond.instanceMethod yX5_of, Cond.selects RX5 yX5_of yX5_of, Cond.initialized RX5, Cond.code yX5_of cX5_of 3 (some .int), Cond.fieldLink RX5 7 "BoatSetsModel" "now" "[I", Cond.methodLink RX5 47 yX5_lays, Cond.instanceMethod yX5_lays, Cond.selects RX5 yX5_lays yX5_lays, Cond.code yX5_lays cX5_lays 4 none, Cond.methodLink RX5 106 yX5_nextToDock, Cond.instanceMethod yX5_nextToDock, Cond.selects RX5 yX5_nextToDock yX5_nextToDock, Cond.code yX5_nextToDock cX5_nextToDock 7 (some .int), Cond.methodLink RX5 62 yX5_kindOf, Cond.instanceMethod yX5_kindOf, Cond.selects RX5 yX5_kindOf yX5_kindOf, Cond.code yX5_kindOf cX5_kindOf 3 (some .int), Cond.methodLink RX5 77 yX5_tollOf, Cond.instanceMethod yX5_tollOf, Cond.selects RX5 yX5_tollOf yX5_tollOf, Cond.code yX5_tollOf cX5_tollOf 4 (some .int), Cond.methodLink RX5 74 yX5_bestOf]
def wsX5_docks_r2 : List Cond := [Cond.instanceMethod yX5_bestOf, Cond.selects RX5 yX5_bestOf yX5_bestOf, Cond.code yX5_bestOf cX5_bestOf 3 (some .int), Cond.methodLink RX5 65 yX5_manyIn, Cond.instanceMethod yX5_manyIn, Cond.selects RX5 yX5_manyIn yX5_manyIn, Cond.code yX5_manyIn cX5_manyIn 5 (some .int), Cond.methodLink RX5 51 yX5_isIn, Cond.instanceMethod yX5_isIn, Cond.selects RX5 yX5_isIn yX5_isIn, Cond.code yX5_isIn cX5_isIn 3 (some .boolean), Cond.methodLink RX5 68 yX5_runsIn, Cond.instanceMethod yX5_runsIn, Cond.selects RX5 yX5_runsIn yX5_runsIn, Cond.code yX5_runsIn cX5_runsIn 5 (some .int), Cond.methodLink RX5 71 yX5_best, Cond.static yX5_best, Cond.code yX5_best cX5_best 3 (some .int), Cond.methodLink RX5 55 yX5_holds, Cond.static yX5_holds, Cond.code yX5_holds cX5_holds 3 (some .boolean), Cond.methodLink RX5 58 yX5_units, Cond.static yX5_units, Cond.code yX5_units cX5_units 3 (some .int)]
def wsX5_docks_r3 : List Cond := [Cond.methodLink RX5 103 yX5_unitsOf, Cond.instanceMethod yX5_unitsOf, Cond.selects RX5 yX5_unitsOf yX5_unitsOf, Cond.code yX5_unitsOf cX5_unitsOf 3 (some .int), Cond.methodLink RX5 84 yX5_becomes, Cond.instanceMethod yX5_becomes, Cond.selects RX5 yX5_becomes yX5_becomes, Cond.code yX5_becomes cX5_becomes 4 none]
def wsX5_docks : List Cond := .code yX5_docks cX5_docks 4 (some .int) :: ((wsX5_docks_r1 ++ (wsX5_docks_r2 ++ wsX5_docks_r3)) ++ wsX50)
def wsX5_dock_r1 : List Cond := [Cond.fieldLink RX5 7 "BoatSetsModel" "now" "[I", Cond.methodLink RX5 92 yX5_isSet, Cond.instanceMethod yX5_isSet, Cond.selects RX5 yX5_isSet yX5_isSet, Cond.initialized RX5, Cond.code yX5_isSet cX5_isSet 2 (some .boolean), Cond.methodLink RX5 39 yX5_in, Cond.static yX5_in, Cond.code yX5_in cX5_in 3 (some .boolean), Cond.methodLink RX5 88 yX5_records, Cond.instanceMethod yX5_records, Cond.selects RX5 yX5_records yX5_records, Cond.code yX5_records cX5_records 3 none, Cond.fieldLink RX5 31 "BoatSetsModel" "pasts" "I", Cond.fieldLink RX5 13 "BoatSetsModel" "past" "[I", Cond.methodLink RX5 35 yX5_copies, Cond.static yX5_copies, Cond.code yX5_copies cX5_copies 5 none, Cond.methodLink RX5 109 yX5_docks, Cond.instanceMethod yX5_docks, Cond.selects RX5 yX5_docks yX5_docks, Cond.code yX5_docks cX5_docks 4 (some .int), Cond.fieldLink RX5 100 "BoatSetsModel" "looked" "I", Cond.methodLink RX5 43 yX5_of]
def wsX5_dock_r2 : List Cond := [Cond.instanceMethod yX5_of, Cond.selects RX5 yX5_of yX5_of, Cond.code yX5_of cX5_of 3 (some .int), Cond.methodLink RX5 47 yX5_lays, Cond.instanceMethod yX5_lays, Cond.selects RX5 yX5_lays yX5_lays, Cond.code yX5_lays cX5_lays 4 none, Cond.methodLink RX5 106 yX5_nextToDock, Cond.instanceMethod yX5_nextToDock, Cond.selects RX5 yX5_nextToDock yX5_nextToDock, Cond.code yX5_nextToDock cX5_nextToDock 7 (some .int), Cond.methodLink RX5 62 yX5_kindOf, Cond.instanceMethod yX5_kindOf, Cond.selects RX5 yX5_kindOf yX5_kindOf, Cond.code yX5_kindOf cX5_kindOf 3 (some .int), Cond.methodLink RX5 77 yX5_tollOf, Cond.instanceMethod yX5_tollOf, Cond.selects RX5 yX5_tollOf yX5_tollOf, Cond.code yX5_tollOf cX5_tollOf 4 (some .int), Cond.methodLink RX5 74 yX5_bestOf, Cond.instanceMethod yX5_bestOf, Cond.selects RX5 yX5_bestOf yX5_bestOf, Cond.code yX5_bestOf cX5_bestOf 3 (some .int), Cond.methodLink RX5 65 yX5_manyIn]
def wsX5_dock_r3 : List Cond := [Cond.instanceMethod yX5_manyIn, Cond.selects RX5 yX5_manyIn yX5_manyIn, Cond.code yX5_manyIn cX5_manyIn 5 (some .int), Cond.methodLink RX5 51 yX5_isIn, Cond.instanceMethod yX5_isIn, Cond.selects RX5 yX5_isIn yX5_isIn, Cond.code yX5_isIn cX5_isIn 3 (some .boolean), Cond.methodLink RX5 68 yX5_runsIn, Cond.instanceMethod yX5_runsIn, Cond.selects RX5 yX5_runsIn yX5_runsIn, Cond.code yX5_runsIn cX5_runsIn 5 (some .int), Cond.methodLink RX5 71 yX5_best, Cond.static yX5_best, Cond.code yX5_best cX5_best 3 (some .int), Cond.methodLink RX5 55 yX5_holds, Cond.static yX5_holds, Cond.code yX5_holds cX5_holds 3 (some .boolean), Cond.methodLink RX5 58 yX5_units, Cond.static yX5_units, Cond.code yX5_units cX5_units 3 (some .int), Cond.methodLink RX5 103 yX5_unitsOf, Cond.instanceMethod yX5_unitsOf, Cond.selects RX5 yX5_unitsOf yX5_unitsOf, Cond.code yX5_unitsOf cX5_unitsOf 3 (some .int)]
def wsX5_dock_r4 : List Cond := [Cond.methodLink RX5 84 yX5_becomes, Cond.instanceMethod yX5_becomes, Cond.selects RX5 yX5_becomes yX5_becomes, Cond.code yX5_becomes cX5_becomes 4 none]
def wsX5_dock : List Cond := .code yX5_dock cX5_dock 2 (some .int) :: ((wsX5_dock_r1 ++ (wsX5_dock_r2 ++ (wsX5_dock_r3 ++ wsX5_dock_r4))) ++ wsX50)
def wsX5_add_r1 : List Cond := [Cond.fieldLink RX5 7 "BoatSetsModel" "now" "[I", Cond.fieldLink RX5 19 "BoatSetsModel" "trial" "[I", Cond.methodLink RX5 92 yX5_isSet, Cond.instanceMethod yX5_isSet, Cond.selects RX5 yX5_isSet yX5_isSet, Cond.initialized RX5, Cond.code yX5_isSet cX5_isSet 2 (some .boolean), Cond.methodLink RX5 39 yX5_in, Cond.static yX5_in, Cond.code yX5_in cX5_in 3 (some .boolean), Cond.methodLink RX5 112 yX5_isNumber, Cond.static yX5_isNumber, Cond.code yX5_isNumber cX5_isNumber 1 (some .boolean), Cond.methodLink RX5 51 yX5_isIn, Cond.instanceMethod yX5_isIn, Cond.selects RX5 yX5_isIn yX5_isIn, Cond.code yX5_isIn cX5_isIn 3 (some .boolean), Cond.methodLink RX5 43 yX5_of, Cond.instanceMethod yX5_of, Cond.selects RX5 yX5_of yX5_of, Cond.code yX5_of cX5_of 3 (some .int), Cond.methodLink RX5 35 yX5_copies, Cond.static yX5_copies, Cond.code yX5_copies cX5_copies 5 none]
def wsX5_add_r2 : List Cond := [Cond.methodLink RX5 115 yX5_goes, Cond.instanceMethod yX5_goes, Cond.selects RX5 yX5_goes yX5_goes, Cond.code yX5_goes cX5_goes 5 (some .boolean), Cond.methodLink RX5 80 yX5_puts, Cond.instanceMethod yX5_puts, Cond.selects RX5 yX5_puts yX5_puts, Cond.code yX5_puts cX5_puts 6 none, Cond.methodLink RX5 47 yX5_lays, Cond.instanceMethod yX5_lays, Cond.selects RX5 yX5_lays yX5_lays, Cond.code yX5_lays cX5_lays 4 none, Cond.methodLink RX5 62 yX5_kindOf, Cond.instanceMethod yX5_kindOf, Cond.selects RX5 yX5_kindOf yX5_kindOf, Cond.code yX5_kindOf cX5_kindOf 3 (some .int), Cond.methodLink RX5 65 yX5_manyIn, Cond.instanceMethod yX5_manyIn, Cond.selects RX5 yX5_manyIn yX5_manyIn, Cond.code yX5_manyIn cX5_manyIn 5 (some .int), Cond.methodLink RX5 74 yX5_bestOf, Cond.instanceMethod yX5_bestOf, Cond.selects RX5 yX5_bestOf yX5_bestOf, Cond.code yX5_bestOf cX5_bestOf 3 (some .int)]
def wsX5_add_r3 : List Cond := [Cond.methodLink RX5 68 yX5_runsIn, Cond.instanceMethod yX5_runsIn, Cond.selects RX5 yX5_runsIn yX5_runsIn, Cond.code yX5_runsIn cX5_runsIn 5 (some .int), Cond.methodLink RX5 71 yX5_best, Cond.static yX5_best, Cond.code yX5_best cX5_best 3 (some .int), Cond.methodLink RX5 55 yX5_holds, Cond.static yX5_holds, Cond.code yX5_holds cX5_holds 3 (some .boolean), Cond.methodLink RX5 58 yX5_units, Cond.static yX5_units, Cond.code yX5_units cX5_units 3 (some .int), Cond.methodLink RX5 77 yX5_tollOf, Cond.instanceMethod yX5_tollOf, Cond.selects RX5 yX5_tollOf yX5_tollOf, Cond.code yX5_tollOf cX5_tollOf 4 (some .int), Cond.methodLink RX5 84 yX5_becomes, Cond.instanceMethod yX5_becomes, Cond.selects RX5 yX5_becomes yX5_becomes, Cond.code yX5_becomes cX5_becomes 4 none, Cond.methodLink RX5 88 yX5_records, Cond.instanceMethod yX5_records, Cond.selects RX5 yX5_records yX5_records]
def wsX5_add_r4 : List Cond := [Cond.code yX5_records cX5_records 3 none, Cond.fieldLink RX5 31 "BoatSetsModel" "pasts" "I", Cond.fieldLink RX5 13 "BoatSetsModel" "past" "[I"]
def wsX5_add : List Cond := .code yX5_add cX5_add 3 (some .int) :: ((wsX5_add_r1 ++ (wsX5_add_r2 ++ (wsX5_add_r3 ++ wsX5_add_r4))) ++ wsX50)
def wsX5_remove_r1 : List Cond := [Cond.fieldLink RX5 7 "BoatSetsModel" "now" "[I", Cond.fieldLink RX5 19 "BoatSetsModel" "trial" "[I", Cond.methodLink RX5 92 yX5_isSet, Cond.instanceMethod yX5_isSet, Cond.selects RX5 yX5_isSet yX5_isSet, Cond.initialized RX5, Cond.code yX5_isSet cX5_isSet 2 (some .boolean), Cond.methodLink RX5 39 yX5_in, Cond.static yX5_in, Cond.code yX5_in cX5_in 3 (some .boolean), Cond.methodLink RX5 112 yX5_isNumber, Cond.static yX5_isNumber, Cond.code yX5_isNumber cX5_isNumber 1 (some .boolean), Cond.methodLink RX5 51 yX5_isIn, Cond.instanceMethod yX5_isIn, Cond.selects RX5 yX5_isIn yX5_isIn, Cond.code yX5_isIn cX5_isIn 3 (some .boolean), Cond.methodLink RX5 43 yX5_of, Cond.instanceMethod yX5_of, Cond.selects RX5 yX5_of yX5_of, Cond.code yX5_of cX5_of 3 (some .int), Cond.methodLink RX5 35 yX5_copies, Cond.static yX5_copies, Cond.code yX5_copies cX5_copies 5 none]
def wsX5_remove_r2 : List Cond := [Cond.methodLink RX5 115 yX5_goes, Cond.instanceMethod yX5_goes, Cond.selects RX5 yX5_goes yX5_goes, Cond.code yX5_goes cX5_goes 5 (some .boolean), Cond.methodLink RX5 80 yX5_puts, Cond.instanceMethod yX5_puts, Cond.selects RX5 yX5_puts yX5_puts, Cond.code yX5_puts cX5_puts 6 none, Cond.methodLink RX5 47 yX5_lays, Cond.instanceMethod yX5_lays, Cond.selects RX5 yX5_lays yX5_lays, Cond.code yX5_lays cX5_lays 4 none, Cond.methodLink RX5 62 yX5_kindOf, Cond.instanceMethod yX5_kindOf, Cond.selects RX5 yX5_kindOf yX5_kindOf, Cond.code yX5_kindOf cX5_kindOf 3 (some .int), Cond.methodLink RX5 65 yX5_manyIn, Cond.instanceMethod yX5_manyIn, Cond.selects RX5 yX5_manyIn yX5_manyIn, Cond.code yX5_manyIn cX5_manyIn 5 (some .int), Cond.methodLink RX5 74 yX5_bestOf, Cond.instanceMethod yX5_bestOf, Cond.selects RX5 yX5_bestOf yX5_bestOf, Cond.code yX5_bestOf cX5_bestOf 3 (some .int)]
def wsX5_remove_r3 : List Cond := [Cond.methodLink RX5 68 yX5_runsIn, Cond.instanceMethod yX5_runsIn, Cond.selects RX5 yX5_runsIn yX5_runsIn, Cond.code yX5_runsIn cX5_runsIn 5 (some .int), Cond.methodLink RX5 71 yX5_best, Cond.static yX5_best, Cond.code yX5_best cX5_best 3 (some .int), Cond.methodLink RX5 55 yX5_holds, Cond.static yX5_holds, Cond.code yX5_holds cX5_holds 3 (some .boolean), Cond.methodLink RX5 58 yX5_units, Cond.static yX5_units, Cond.code yX5_units cX5_units 3 (some .int), Cond.methodLink RX5 77 yX5_tollOf, Cond.instanceMethod yX5_tollOf, Cond.selects RX5 yX5_tollOf yX5_tollOf, Cond.code yX5_tollOf cX5_tollOf 4 (some .int), Cond.methodLink RX5 84 yX5_becomes, Cond.instanceMethod yX5_becomes, Cond.selects RX5 yX5_becomes yX5_becomes, Cond.code yX5_becomes cX5_becomes 4 none, Cond.methodLink RX5 88 yX5_records, Cond.instanceMethod yX5_records, Cond.selects RX5 yX5_records yX5_records]
def wsX5_remove_r4 : List Cond := [Cond.code yX5_records cX5_records 3 none, Cond.fieldLink RX5 31 "BoatSetsModel" "pasts" "I", Cond.fieldLink RX5 13 "BoatSetsModel" "past" "[I"]
def wsX5_remove : List Cond := .code yX5_remove cX5_remove 3 (some .int) :: ((wsX5_remove_r1 ++ (wsX5_remove_r2 ++ (wsX5_remove_r3 ++ wsX5_remove_r4))) ++ wsX50)
def wsX5_goesAll_r1 : List Cond := [Cond.methodLink RX5 51 yX5_isIn, Cond.instanceMethod yX5_isIn, Cond.selects RX5 yX5_isIn yX5_isIn, Cond.initialized RX5, Cond.code yX5_isIn cX5_isIn 3 (some .boolean), Cond.methodLink RX5 43 yX5_of, Cond.instanceMethod yX5_of, Cond.selects RX5 yX5_of yX5_of, Cond.code yX5_of cX5_of 3 (some .int), Cond.fieldLink RX5 7 "BoatSetsModel" "now" "[I", Cond.methodLink RX5 115 yX5_goes, Cond.instanceMethod yX5_goes, Cond.selects RX5 yX5_goes yX5_goes, Cond.code yX5_goes cX5_goes 5 (some .boolean), Cond.methodLink RX5 80 yX5_puts, Cond.instanceMethod yX5_puts, Cond.selects RX5 yX5_puts yX5_puts, Cond.code yX5_puts cX5_puts 6 none, Cond.methodLink RX5 47 yX5_lays, Cond.instanceMethod yX5_lays, Cond.selects RX5 yX5_lays yX5_lays, Cond.code yX5_lays cX5_lays 4 none, Cond.methodLink RX5 62 yX5_kindOf, Cond.instanceMethod yX5_kindOf]
def wsX5_goesAll_r2 : List Cond := [Cond.selects RX5 yX5_kindOf yX5_kindOf, Cond.code yX5_kindOf cX5_kindOf 3 (some .int), Cond.methodLink RX5 65 yX5_manyIn, Cond.instanceMethod yX5_manyIn, Cond.selects RX5 yX5_manyIn yX5_manyIn, Cond.code yX5_manyIn cX5_manyIn 5 (some .int), Cond.methodLink RX5 74 yX5_bestOf, Cond.instanceMethod yX5_bestOf, Cond.selects RX5 yX5_bestOf yX5_bestOf, Cond.code yX5_bestOf cX5_bestOf 3 (some .int), Cond.methodLink RX5 68 yX5_runsIn, Cond.instanceMethod yX5_runsIn, Cond.selects RX5 yX5_runsIn yX5_runsIn, Cond.code yX5_runsIn cX5_runsIn 5 (some .int), Cond.methodLink RX5 71 yX5_best, Cond.static yX5_best, Cond.code yX5_best cX5_best 3 (some .int), Cond.methodLink RX5 55 yX5_holds, Cond.static yX5_holds, Cond.code yX5_holds cX5_holds 3 (some .boolean), Cond.methodLink RX5 58 yX5_units, Cond.static yX5_units, Cond.code yX5_units cX5_units 3 (some .int), Cond.methodLink RX5 77 yX5_tollOf]
def wsX5_goesAll_r3 : List Cond := [Cond.instanceMethod yX5_tollOf, Cond.selects RX5 yX5_tollOf yX5_tollOf, Cond.code yX5_tollOf cX5_tollOf 4 (some .int), Cond.methodLink RX5 84 yX5_becomes, Cond.instanceMethod yX5_becomes, Cond.selects RX5 yX5_becomes yX5_becomes, Cond.code yX5_becomes cX5_becomes 4 none]
def wsX5_goesAll : List Cond := .code yX5_goesAll cX5_goesAll 7 (some .int) :: ((wsX5_goesAll_r1 ++ (wsX5_goesAll_r2 ++ wsX5_goesAll_r3)) ++ wsX50)
def wsX5_ends : List Cond := .code yX5_ends cX5_ends 2 (some .int) :: ([.fieldLink RX5 19 "BoatSetsModel" "trial" "[I", .fieldLink RX5 7 "BoatSetsModel" "now" "[I", .methodLink RX5 35 yX5_copies, .static yX5_copies, .initialized RX5, .code yX5_copies cX5_copies 5 none, .methodLink RX5 88 yX5_records, .instanceMethod yX5_records, .selects RX5 yX5_records yX5_records, .code yX5_records cX5_records 3 none, .fieldLink RX5 31 "BoatSetsModel" "pasts" "I", .fieldLink RX5 13 "BoatSetsModel" "past" "[I"] ++ wsX50)
def wsX5_ranges_r1 : List Cond := [Cond.fieldLink RX5 7 "BoatSetsModel" "now" "[I", Cond.fieldLink RX5 19 "BoatSetsModel" "trial" "[I", Cond.methodLink RX5 92 yX5_isSet, Cond.instanceMethod yX5_isSet, Cond.selects RX5 yX5_isSet yX5_isSet, Cond.initialized RX5, Cond.code yX5_isSet cX5_isSet 2 (some .boolean), Cond.methodLink RX5 39 yX5_in, Cond.static yX5_in, Cond.code yX5_in cX5_in 3 (some .boolean), Cond.methodLink RX5 112 yX5_isNumber, Cond.static yX5_isNumber, Cond.code yX5_isNumber cX5_isNumber 1 (some .boolean), Cond.methodLink RX5 35 yX5_copies, Cond.static yX5_copies, Cond.code yX5_copies cX5_copies 5 none, Cond.methodLink RX5 119 yX5_goesAll, Cond.instanceMethod yX5_goesAll, Cond.selects RX5 yX5_goesAll yX5_goesAll, Cond.code yX5_goesAll cX5_goesAll 7 (some .int), Cond.methodLink RX5 51 yX5_isIn, Cond.instanceMethod yX5_isIn, Cond.selects RX5 yX5_isIn yX5_isIn, Cond.code yX5_isIn cX5_isIn 3 (some .boolean)]
def wsX5_ranges_r2 : List Cond := [Cond.methodLink RX5 43 yX5_of, Cond.instanceMethod yX5_of, Cond.selects RX5 yX5_of yX5_of, Cond.code yX5_of cX5_of 3 (some .int), Cond.methodLink RX5 115 yX5_goes, Cond.instanceMethod yX5_goes, Cond.selects RX5 yX5_goes yX5_goes, Cond.code yX5_goes cX5_goes 5 (some .boolean), Cond.methodLink RX5 80 yX5_puts, Cond.instanceMethod yX5_puts, Cond.selects RX5 yX5_puts yX5_puts, Cond.code yX5_puts cX5_puts 6 none, Cond.methodLink RX5 47 yX5_lays, Cond.instanceMethod yX5_lays, Cond.selects RX5 yX5_lays yX5_lays, Cond.code yX5_lays cX5_lays 4 none, Cond.methodLink RX5 62 yX5_kindOf, Cond.instanceMethod yX5_kindOf, Cond.selects RX5 yX5_kindOf yX5_kindOf, Cond.code yX5_kindOf cX5_kindOf 3 (some .int), Cond.methodLink RX5 65 yX5_manyIn, Cond.instanceMethod yX5_manyIn, Cond.selects RX5 yX5_manyIn yX5_manyIn, Cond.code yX5_manyIn cX5_manyIn 5 (some .int)]
def wsX5_ranges_r3 : List Cond := [Cond.methodLink RX5 74 yX5_bestOf, Cond.instanceMethod yX5_bestOf, Cond.selects RX5 yX5_bestOf yX5_bestOf, Cond.code yX5_bestOf cX5_bestOf 3 (some .int), Cond.methodLink RX5 68 yX5_runsIn, Cond.instanceMethod yX5_runsIn, Cond.selects RX5 yX5_runsIn yX5_runsIn, Cond.code yX5_runsIn cX5_runsIn 5 (some .int), Cond.methodLink RX5 71 yX5_best, Cond.static yX5_best, Cond.code yX5_best cX5_best 3 (some .int), Cond.methodLink RX5 55 yX5_holds, Cond.static yX5_holds, Cond.code yX5_holds cX5_holds 3 (some .boolean), Cond.methodLink RX5 58 yX5_units, Cond.static yX5_units, Cond.code yX5_units cX5_units 3 (some .int), Cond.methodLink RX5 77 yX5_tollOf, Cond.instanceMethod yX5_tollOf, Cond.selects RX5 yX5_tollOf yX5_tollOf, Cond.code yX5_tollOf cX5_tollOf 4 (some .int), Cond.methodLink RX5 84 yX5_becomes, Cond.instanceMethod yX5_becomes, Cond.selects RX5 yX5_becomes yX5_becomes]
def wsX5_ranges_r4 : List Cond := [Cond.code yX5_becomes cX5_becomes 4 none, Cond.methodLink RX5 123 yX5_ends, Cond.instanceMethod yX5_ends, Cond.selects RX5 yX5_ends yX5_ends, Cond.code yX5_ends cX5_ends 2 (some .int), Cond.methodLink RX5 88 yX5_records, Cond.instanceMethod yX5_records, Cond.selects RX5 yX5_records yX5_records, Cond.code yX5_records cX5_records 3 none, Cond.fieldLink RX5 31 "BoatSetsModel" "pasts" "I", Cond.fieldLink RX5 13 "BoatSetsModel" "past" "[I"]
def wsX5_ranges : List Cond := .code yX5_ranges cX5_ranges 5 (some .int) :: ((wsX5_ranges_r1 ++ (wsX5_ranges_r2 ++ (wsX5_ranges_r3 ++ wsX5_ranges_r4))) ++ wsX50)
def wsX5_addRange_r1 : List Cond := [Cond.methodLink RX5 126 yX5_ranges, Cond.instanceMethod yX5_ranges, Cond.selects RX5 yX5_ranges yX5_ranges, Cond.initialized RX5, Cond.code yX5_ranges cX5_ranges 5 (some .int), Cond.fieldLink RX5 7 "BoatSetsModel" "now" "[I", Cond.fieldLink RX5 19 "BoatSetsModel" "trial" "[I", Cond.methodLink RX5 92 yX5_isSet, Cond.instanceMethod yX5_isSet, Cond.selects RX5 yX5_isSet yX5_isSet, Cond.code yX5_isSet cX5_isSet 2 (some .boolean), Cond.methodLink RX5 39 yX5_in, Cond.static yX5_in, Cond.code yX5_in cX5_in 3 (some .boolean), Cond.methodLink RX5 112 yX5_isNumber, Cond.static yX5_isNumber, Cond.code yX5_isNumber cX5_isNumber 1 (some .boolean), Cond.methodLink RX5 35 yX5_copies, Cond.static yX5_copies, Cond.code yX5_copies cX5_copies 5 none, Cond.methodLink RX5 119 yX5_goesAll, Cond.instanceMethod yX5_goesAll, Cond.selects RX5 yX5_goesAll yX5_goesAll, Cond.code yX5_goesAll cX5_goesAll 7 (some .int)]
def wsX5_addRange_r2 : List Cond := [Cond.methodLink RX5 51 yX5_isIn, Cond.instanceMethod yX5_isIn, Cond.selects RX5 yX5_isIn yX5_isIn, Cond.code yX5_isIn cX5_isIn 3 (some .boolean), Cond.methodLink RX5 43 yX5_of, Cond.instanceMethod yX5_of, Cond.selects RX5 yX5_of yX5_of, Cond.code yX5_of cX5_of 3 (some .int), Cond.methodLink RX5 115 yX5_goes, Cond.instanceMethod yX5_goes, Cond.selects RX5 yX5_goes yX5_goes, Cond.code yX5_goes cX5_goes 5 (some .boolean), Cond.methodLink RX5 80 yX5_puts, Cond.instanceMethod yX5_puts, Cond.selects RX5 yX5_puts yX5_puts, Cond.code yX5_puts cX5_puts 6 none, Cond.methodLink RX5 47 yX5_lays, Cond.instanceMethod yX5_lays, Cond.selects RX5 yX5_lays yX5_lays, Cond.code yX5_lays cX5_lays 4 none, Cond.methodLink RX5 62 yX5_kindOf, Cond.instanceMethod yX5_kindOf, Cond.selects RX5 yX5_kindOf yX5_kindOf, Cond.code yX5_kindOf cX5_kindOf 3 (some .int)]
def wsX5_addRange_r3 : List Cond := [Cond.methodLink RX5 65 yX5_manyIn, Cond.instanceMethod yX5_manyIn, Cond.selects RX5 yX5_manyIn yX5_manyIn, Cond.code yX5_manyIn cX5_manyIn 5 (some .int), Cond.methodLink RX5 74 yX5_bestOf, Cond.instanceMethod yX5_bestOf, Cond.selects RX5 yX5_bestOf yX5_bestOf, Cond.code yX5_bestOf cX5_bestOf 3 (some .int), Cond.methodLink RX5 68 yX5_runsIn, Cond.instanceMethod yX5_runsIn, Cond.selects RX5 yX5_runsIn yX5_runsIn, Cond.code yX5_runsIn cX5_runsIn 5 (some .int), Cond.methodLink RX5 71 yX5_best, Cond.static yX5_best, Cond.code yX5_best cX5_best 3 (some .int), Cond.methodLink RX5 55 yX5_holds, Cond.static yX5_holds, Cond.code yX5_holds cX5_holds 3 (some .boolean), Cond.methodLink RX5 58 yX5_units, Cond.static yX5_units, Cond.code yX5_units cX5_units 3 (some .int), Cond.methodLink RX5 77 yX5_tollOf, Cond.instanceMethod yX5_tollOf, Cond.selects RX5 yX5_tollOf yX5_tollOf]
def wsX5_addRange_r4 : List Cond := [Cond.code yX5_tollOf cX5_tollOf 4 (some .int), Cond.methodLink RX5 84 yX5_becomes, Cond.instanceMethod yX5_becomes, Cond.selects RX5 yX5_becomes yX5_becomes, Cond.code yX5_becomes cX5_becomes 4 none, Cond.methodLink RX5 123 yX5_ends, Cond.instanceMethod yX5_ends, Cond.selects RX5 yX5_ends yX5_ends, Cond.code yX5_ends cX5_ends 2 (some .int), Cond.methodLink RX5 88 yX5_records, Cond.instanceMethod yX5_records, Cond.selects RX5 yX5_records yX5_records, Cond.code yX5_records cX5_records 3 none, Cond.fieldLink RX5 31 "BoatSetsModel" "pasts" "I", Cond.fieldLink RX5 13 "BoatSetsModel" "past" "[I"]
def wsX5_addRange : List Cond := .code yX5_addRange cX5_addRange 4 (some .int) :: ((wsX5_addRange_r1 ++ (wsX5_addRange_r2 ++ (wsX5_addRange_r3 ++ wsX5_addRange_r4))) ++ wsX50)
def wsX5_removeRange_r1 : List Cond := [Cond.methodLink RX5 126 yX5_ranges, Cond.instanceMethod yX5_ranges, Cond.selects RX5 yX5_ranges yX5_ranges, Cond.initialized RX5, Cond.code yX5_ranges cX5_ranges 5 (some .int), Cond.fieldLink RX5 7 "BoatSetsModel" "now" "[I", Cond.fieldLink RX5 19 "BoatSetsModel" "trial" "[I", Cond.methodLink RX5 92 yX5_isSet, Cond.instanceMethod yX5_isSet, Cond.selects RX5 yX5_isSet yX5_isSet, Cond.code yX5_isSet cX5_isSet 2 (some .boolean), Cond.methodLink RX5 39 yX5_in, Cond.static yX5_in, Cond.code yX5_in cX5_in 3 (some .boolean), Cond.methodLink RX5 112 yX5_isNumber, Cond.static yX5_isNumber, Cond.code yX5_isNumber cX5_isNumber 1 (some .boolean), Cond.methodLink RX5 35 yX5_copies, Cond.static yX5_copies, Cond.code yX5_copies cX5_copies 5 none, Cond.methodLink RX5 119 yX5_goesAll, Cond.instanceMethod yX5_goesAll, Cond.selects RX5 yX5_goesAll yX5_goesAll, Cond.code yX5_goesAll cX5_goesAll 7 (some .int)]
def wsX5_removeRange_r2 : List Cond := [Cond.methodLink RX5 51 yX5_isIn, Cond.instanceMethod yX5_isIn, Cond.selects RX5 yX5_isIn yX5_isIn, Cond.code yX5_isIn cX5_isIn 3 (some .boolean), Cond.methodLink RX5 43 yX5_of, Cond.instanceMethod yX5_of, Cond.selects RX5 yX5_of yX5_of, Cond.code yX5_of cX5_of 3 (some .int), Cond.methodLink RX5 115 yX5_goes, Cond.instanceMethod yX5_goes, Cond.selects RX5 yX5_goes yX5_goes, Cond.code yX5_goes cX5_goes 5 (some .boolean), Cond.methodLink RX5 80 yX5_puts, Cond.instanceMethod yX5_puts, Cond.selects RX5 yX5_puts yX5_puts, Cond.code yX5_puts cX5_puts 6 none, Cond.methodLink RX5 47 yX5_lays, Cond.instanceMethod yX5_lays, Cond.selects RX5 yX5_lays yX5_lays, Cond.code yX5_lays cX5_lays 4 none, Cond.methodLink RX5 62 yX5_kindOf, Cond.instanceMethod yX5_kindOf, Cond.selects RX5 yX5_kindOf yX5_kindOf, Cond.code yX5_kindOf cX5_kindOf 3 (some .int)]
def wsX5_removeRange_r3 : List Cond := [Cond.methodLink RX5 65 yX5_manyIn, Cond.instanceMethod yX5_manyIn, Cond.selects RX5 yX5_manyIn yX5_manyIn, Cond.code yX5_manyIn cX5_manyIn 5 (some .int), Cond.methodLink RX5 74 yX5_bestOf, Cond.instanceMethod yX5_bestOf, Cond.selects RX5 yX5_bestOf yX5_bestOf, Cond.code yX5_bestOf cX5_bestOf 3 (some .int), Cond.methodLink RX5 68 yX5_runsIn, Cond.instanceMethod yX5_runsIn, Cond.selects RX5 yX5_runsIn yX5_runsIn, Cond.code yX5_runsIn cX5_runsIn 5 (some .int), Cond.methodLink RX5 71 yX5_best, Cond.static yX5_best, Cond.code yX5_best cX5_best 3 (some .int), Cond.methodLink RX5 55 yX5_holds, Cond.static yX5_holds, Cond.code yX5_holds cX5_holds 3 (some .boolean), Cond.methodLink RX5 58 yX5_units, Cond.static yX5_units, Cond.code yX5_units cX5_units 3 (some .int), Cond.methodLink RX5 77 yX5_tollOf, Cond.instanceMethod yX5_tollOf, Cond.selects RX5 yX5_tollOf yX5_tollOf]
def wsX5_removeRange_r4 : List Cond := [Cond.code yX5_tollOf cX5_tollOf 4 (some .int), Cond.methodLink RX5 84 yX5_becomes, Cond.instanceMethod yX5_becomes, Cond.selects RX5 yX5_becomes yX5_becomes, Cond.code yX5_becomes cX5_becomes 4 none, Cond.methodLink RX5 123 yX5_ends, Cond.instanceMethod yX5_ends, Cond.selects RX5 yX5_ends yX5_ends, Cond.code yX5_ends cX5_ends 2 (some .int), Cond.methodLink RX5 88 yX5_records, Cond.instanceMethod yX5_records, Cond.selects RX5 yX5_records yX5_records, Cond.code yX5_records cX5_records 3 none, Cond.fieldLink RX5 31 "BoatSetsModel" "pasts" "I", Cond.fieldLink RX5 13 "BoatSetsModel" "past" "[I"]
def wsX5_removeRange : List Cond := .code yX5_removeRange cX5_removeRange 4 (some .int) :: ((wsX5_removeRange_r1 ++ (wsX5_removeRange_r2 ++ (wsX5_removeRange_r3 ++ wsX5_removeRange_r4))) ++ wsX50)
def wsX5_gives : List Cond := .code yX5_gives cX5_gives 3 (some .boolean) :: ([])
def wsX5_laysGiven : List Cond := .code yX5_laysGiven cX5_laysGiven 6 (some .int) :: ([.fieldLink RX5 25 "BoatSetsModel" "given" "[I", .methodLink RX5 51 yX5_isIn, .instanceMethod yX5_isIn, .selects RX5 yX5_isIn yX5_isIn, .initialized RX5, .code yX5_isIn cX5_isIn 3 (some .boolean), .methodLink RX5 43 yX5_of, .instanceMethod yX5_of, .selects RX5 yX5_of yX5_of, .code yX5_of cX5_of 3 (some .int), .fieldLink RX5 7 "BoatSetsModel" "now" "[I", .methodLink RX5 129 yX5_gives, .static yX5_gives, .code yX5_gives cX5_gives 3 (some .boolean)] ++ wsX50)
def wsX5_combine_r1 : List Cond := [Cond.fieldLink RX5 7 "BoatSetsModel" "now" "[I", Cond.fieldLink RX5 25 "BoatSetsModel" "given" "[I", Cond.methodLink RX5 92 yX5_isSet, Cond.instanceMethod yX5_isSet, Cond.selects RX5 yX5_isSet yX5_isSet, Cond.initialized RX5, Cond.code yX5_isSet cX5_isSet 2 (some .boolean), Cond.methodLink RX5 39 yX5_in, Cond.static yX5_in, Cond.code yX5_in cX5_in 3 (some .boolean), Cond.methodLink RX5 43 yX5_of, Cond.instanceMethod yX5_of, Cond.selects RX5 yX5_of yX5_of, Cond.code yX5_of cX5_of 3 (some .int), Cond.methodLink RX5 88 yX5_records, Cond.instanceMethod yX5_records, Cond.selects RX5 yX5_records yX5_records, Cond.code yX5_records cX5_records 3 none, Cond.fieldLink RX5 31 "BoatSetsModel" "pasts" "I", Cond.fieldLink RX5 13 "BoatSetsModel" "past" "[I", Cond.methodLink RX5 35 yX5_copies, Cond.static yX5_copies, Cond.code yX5_copies cX5_copies 5 none, Cond.methodLink RX5 133 yX5_laysGiven]
def wsX5_combine_r2 : List Cond := [Cond.instanceMethod yX5_laysGiven, Cond.selects RX5 yX5_laysGiven yX5_laysGiven, Cond.code yX5_laysGiven cX5_laysGiven 6 (some .int), Cond.methodLink RX5 51 yX5_isIn, Cond.instanceMethod yX5_isIn, Cond.selects RX5 yX5_isIn yX5_isIn, Cond.code yX5_isIn cX5_isIn 3 (some .boolean), Cond.methodLink RX5 129 yX5_gives, Cond.static yX5_gives, Cond.code yX5_gives cX5_gives 3 (some .boolean), Cond.methodLink RX5 47 yX5_lays, Cond.instanceMethod yX5_lays, Cond.selects RX5 yX5_lays yX5_lays, Cond.code yX5_lays cX5_lays 4 none, Cond.methodLink RX5 65 yX5_manyIn, Cond.instanceMethod yX5_manyIn, Cond.selects RX5 yX5_manyIn yX5_manyIn, Cond.code yX5_manyIn cX5_manyIn 5 (some .int), Cond.methodLink RX5 74 yX5_bestOf, Cond.instanceMethod yX5_bestOf, Cond.selects RX5 yX5_bestOf yX5_bestOf, Cond.code yX5_bestOf cX5_bestOf 3 (some .int), Cond.methodLink RX5 68 yX5_runsIn, Cond.instanceMethod yX5_runsIn]
def wsX5_combine_r3 : List Cond := [Cond.selects RX5 yX5_runsIn yX5_runsIn, Cond.code yX5_runsIn cX5_runsIn 5 (some .int), Cond.methodLink RX5 71 yX5_best, Cond.static yX5_best, Cond.code yX5_best cX5_best 3 (some .int), Cond.methodLink RX5 55 yX5_holds, Cond.static yX5_holds, Cond.code yX5_holds cX5_holds 3 (some .boolean), Cond.methodLink RX5 58 yX5_units, Cond.static yX5_units, Cond.code yX5_units cX5_units 3 (some .int)]
def wsX5_combine : List Cond := .code yX5_combine cX5_combine 7 (some .int) :: ((wsX5_combine_r1 ++ (wsX5_combine_r2 ++ wsX5_combine_r3)) ++ wsX50)
def wsX5_type : List Cond := .code yX5_type cX5_type 2 (some .int) :: ([.fieldLink RX5 136 "BoatSetsModel" "typed" "I", .fieldLink RX5 22 "BoatSetsModel" "text" "[I"] ++ wsX50)
def wsX5_clearText : List Cond := .code yX5_clearText cX5_clearText 2 (some .int) :: ([.fieldLink RX5 136 "BoatSetsModel" "typed" "I"] ++ wsX50)
def wsX5_signAt : List Cond := .code yX5_signAt cX5_signAt 2 (some .int) :: ([.fieldLink RX5 136 "BoatSetsModel" "typed" "I", .fieldLink RX5 22 "BoatSetsModel" "text" "[I"] ++ wsX50)
def wsX5_readsNumber : List Cond := .code yX5_readsNumber cX5_readsNumber 3 (some .int) :: ([.fieldLink RX5 139 "BoatSetsModel" "at" "I", .methodLink RX5 142 yX5_signAt, .instanceMethod yX5_signAt, .selects RX5 yX5_signAt yX5_signAt, .initialized RX5, .code yX5_signAt cX5_signAt 2 (some .int), .fieldLink RX5 136 "BoatSetsModel" "typed" "I", .fieldLink RX5 22 "BoatSetsModel" "text" "[I", .methodLink RX5 39 yX5_in, .static yX5_in, .code yX5_in cX5_in 3 (some .boolean)] ++ wsX50)
def wsX5_faultOf : List Cond := .code yX5_faultOf cX5_faultOf 4 (some .int) :: ([.fieldLink RX5 139 "BoatSetsModel" "at" "I", .fieldLink RX5 145 "BoatSetsModel" "readMany" "I", .fieldLink RX5 28 "BoatSetsModel" "numbers" "[I", .fieldLink RX5 136 "BoatSetsModel" "typed" "I", .methodLink RX5 148 yX5_readsNumber, .instanceMethod yX5_readsNumber, .selects RX5 yX5_readsNumber yX5_readsNumber, .initialized RX5, .code yX5_readsNumber cX5_readsNumber 3 (some .int), .methodLink RX5 142 yX5_signAt, .instanceMethod yX5_signAt, .selects RX5 yX5_signAt yX5_signAt, .code yX5_signAt cX5_signAt 2 (some .int), .fieldLink RX5 22 "BoatSetsModel" "text" "[I", .methodLink RX5 39 yX5_in, .static yX5_in, .code yX5_in cX5_in 3 (some .boolean)] ++ wsX50)
def wsX5_readRanges_r1 : List Cond := [Cond.fieldLink RX5 145 "BoatSetsModel" "readMany" "I", Cond.fieldLink RX5 28 "BoatSetsModel" "numbers" "[I", Cond.fieldLink RX5 7 "BoatSetsModel" "now" "[I", Cond.fieldLink RX5 19 "BoatSetsModel" "trial" "[I", Cond.methodLink RX5 92 yX5_isSet, Cond.instanceMethod yX5_isSet, Cond.selects RX5 yX5_isSet yX5_isSet, Cond.initialized RX5, Cond.code yX5_isSet cX5_isSet 2 (some .boolean), Cond.methodLink RX5 39 yX5_in, Cond.static yX5_in, Cond.code yX5_in cX5_in 3 (some .boolean), Cond.methodLink RX5 152 yX5_faultOf, Cond.instanceMethod yX5_faultOf, Cond.selects RX5 yX5_faultOf yX5_faultOf, Cond.code yX5_faultOf cX5_faultOf 4 (some .int), Cond.fieldLink RX5 139 "BoatSetsModel" "at" "I", Cond.fieldLink RX5 136 "BoatSetsModel" "typed" "I", Cond.methodLink RX5 148 yX5_readsNumber, Cond.instanceMethod yX5_readsNumber, Cond.selects RX5 yX5_readsNumber yX5_readsNumber, Cond.code yX5_readsNumber cX5_readsNumber 3 (some .int), Cond.methodLink RX5 142 yX5_signAt, Cond.instanceMethod yX5_signAt]
def wsX5_readRanges_r2 : List Cond := [Cond.selects RX5 yX5_signAt yX5_signAt, Cond.code yX5_signAt cX5_signAt 2 (some .int), Cond.fieldLink RX5 22 "BoatSetsModel" "text" "[I", Cond.methodLink RX5 112 yX5_isNumber, Cond.static yX5_isNumber, Cond.code yX5_isNumber cX5_isNumber 1 (some .boolean), Cond.methodLink RX5 35 yX5_copies, Cond.static yX5_copies, Cond.code yX5_copies cX5_copies 5 none, Cond.methodLink RX5 119 yX5_goesAll, Cond.instanceMethod yX5_goesAll, Cond.selects RX5 yX5_goesAll yX5_goesAll, Cond.code yX5_goesAll cX5_goesAll 7 (some .int), Cond.methodLink RX5 51 yX5_isIn, Cond.instanceMethod yX5_isIn, Cond.selects RX5 yX5_isIn yX5_isIn, Cond.code yX5_isIn cX5_isIn 3 (some .boolean), Cond.methodLink RX5 43 yX5_of, Cond.instanceMethod yX5_of, Cond.selects RX5 yX5_of yX5_of, Cond.code yX5_of cX5_of 3 (some .int), Cond.methodLink RX5 115 yX5_goes, Cond.instanceMethod yX5_goes, Cond.selects RX5 yX5_goes yX5_goes]
def wsX5_readRanges_r3 : List Cond := [Cond.code yX5_goes cX5_goes 5 (some .boolean), Cond.methodLink RX5 80 yX5_puts, Cond.instanceMethod yX5_puts, Cond.selects RX5 yX5_puts yX5_puts, Cond.code yX5_puts cX5_puts 6 none, Cond.methodLink RX5 47 yX5_lays, Cond.instanceMethod yX5_lays, Cond.selects RX5 yX5_lays yX5_lays, Cond.code yX5_lays cX5_lays 4 none, Cond.methodLink RX5 62 yX5_kindOf, Cond.instanceMethod yX5_kindOf, Cond.selects RX5 yX5_kindOf yX5_kindOf, Cond.code yX5_kindOf cX5_kindOf 3 (some .int), Cond.methodLink RX5 65 yX5_manyIn, Cond.instanceMethod yX5_manyIn, Cond.selects RX5 yX5_manyIn yX5_manyIn, Cond.code yX5_manyIn cX5_manyIn 5 (some .int), Cond.methodLink RX5 74 yX5_bestOf, Cond.instanceMethod yX5_bestOf, Cond.selects RX5 yX5_bestOf yX5_bestOf, Cond.code yX5_bestOf cX5_bestOf 3 (some .int), Cond.methodLink RX5 68 yX5_runsIn, Cond.instanceMethod yX5_runsIn, Cond.selects RX5 yX5_runsIn yX5_runsIn]
def wsX5_readRanges_r4 : List Cond := [Cond.code yX5_runsIn cX5_runsIn 5 (some .int), Cond.methodLink RX5 71 yX5_best, Cond.static yX5_best, Cond.code yX5_best cX5_best 3 (some .int), Cond.methodLink RX5 55 yX5_holds, Cond.static yX5_holds, Cond.code yX5_holds cX5_holds 3 (some .boolean), Cond.methodLink RX5 58 yX5_units, Cond.static yX5_units, Cond.code yX5_units cX5_units 3 (some .int), Cond.methodLink RX5 77 yX5_tollOf, Cond.instanceMethod yX5_tollOf, Cond.selects RX5 yX5_tollOf yX5_tollOf, Cond.code yX5_tollOf cX5_tollOf 4 (some .int), Cond.methodLink RX5 84 yX5_becomes, Cond.instanceMethod yX5_becomes, Cond.selects RX5 yX5_becomes yX5_becomes, Cond.code yX5_becomes cX5_becomes 4 none, Cond.methodLink RX5 123 yX5_ends, Cond.instanceMethod yX5_ends, Cond.selects RX5 yX5_ends yX5_ends, Cond.code yX5_ends cX5_ends 2 (some .int), Cond.methodLink RX5 88 yX5_records, Cond.instanceMethod yX5_records]
def wsX5_readRanges_r5 : List Cond := [Cond.selects RX5 yX5_records yX5_records, Cond.code yX5_records cX5_records 3 none, Cond.fieldLink RX5 31 "BoatSetsModel" "pasts" "I", Cond.fieldLink RX5 13 "BoatSetsModel" "past" "[I"]
def wsX5_readRanges : List Cond := .code yX5_readRanges cX5_readRanges 6 (some .int) :: ((wsX5_readRanges_r1 ++ (wsX5_readRanges_r2 ++ (wsX5_readRanges_r3 ++ (wsX5_readRanges_r4 ++ wsX5_readRanges_r5)))) ++ wsX50)
def wsX5_undo : List Cond := .code yX5_undo cX5_undo 1 (some .int) :: ([.fieldLink RX5 31 "BoatSetsModel" "pasts" "I", .fieldLink RX5 13 "BoatSetsModel" "past" "[I", .fieldLink RX5 7 "BoatSetsModel" "now" "[I", .methodLink RX5 35 yX5_copies, .static yX5_copies, .initialized RX5, .code yX5_copies cX5_copies 5 none] ++ wsX50)
def wsX5_keep : List Cond := .code yX5_keep cX5_keep 1 (some .int) :: ([.fieldLink RX5 7 "BoatSetsModel" "now" "[I", .fieldLink RX5 16 "BoatSetsModel" "kept" "[I", .fieldLink RX5 155 "BoatSetsModel" "isKept" "Z", .methodLink RX5 35 yX5_copies, .static yX5_copies, .initialized RX5, .code yX5_copies cX5_copies 5 none] ++ wsX50)
def wsX5_restore : List Cond := .code yX5_restore cX5_restore 1 (some .int) :: ([.fieldLink RX5 155 "BoatSetsModel" "isKept" "Z", .fieldLink RX5 7 "BoatSetsModel" "now" "[I", .fieldLink RX5 16 "BoatSetsModel" "kept" "[I", .methodLink RX5 88 yX5_records, .instanceMethod yX5_records, .selects RX5 yX5_records yX5_records, .initialized RX5, .code yX5_records cX5_records 3 none, .fieldLink RX5 31 "BoatSetsModel" "pasts" "I", .fieldLink RX5 13 "BoatSetsModel" "past" "[I", .methodLink RX5 35 yX5_copies, .static yX5_copies, .code yX5_copies cX5_copies 5 none] ++ wsX50)
def wsX5_has : List Cond := .code yX5_has cX5_has 3 (some .int) :: ([.methodLink RX5 92 yX5_isSet, .instanceMethod yX5_isSet, .selects RX5 yX5_isSet yX5_isSet, .initialized RX5, .code yX5_isSet cX5_isSet 2 (some .boolean), .fieldLink RX5 7 "BoatSetsModel" "now" "[I", .methodLink RX5 39 yX5_in, .static yX5_in, .code yX5_in cX5_in 3 (some .boolean), .methodLink RX5 112 yX5_isNumber, .static yX5_isNumber, .code yX5_isNumber cX5_isNumber 1 (some .boolean), .methodLink RX5 51 yX5_isIn, .instanceMethod yX5_isIn, .selects RX5 yX5_isIn yX5_isIn, .code yX5_isIn cX5_isIn 3 (some .boolean), .methodLink RX5 43 yX5_of, .instanceMethod yX5_of, .selects RX5 yX5_of yX5_of, .code yX5_of cX5_of 3 (some .int)] ++ wsX50)
def wsX5_rankOf : List Cond := .code yX5_rankOf cX5_rankOf 5 (some .int) :: ([.methodLink RX5 51 yX5_isIn, .instanceMethod yX5_isIn, .selects RX5 yX5_isIn yX5_isIn, .initialized RX5, .code yX5_isIn cX5_isIn 3 (some .boolean), .methodLink RX5 43 yX5_of, .instanceMethod yX5_of, .selects RX5 yX5_of yX5_of, .code yX5_of cX5_of 3 (some .int), .fieldLink RX5 7 "BoatSetsModel" "now" "[I"] ++ wsX50)
def wsX5_firstFrom : List Cond := .code yX5_firstFrom cX5_firstFrom 5 (some .int) :: ([.methodLink RX5 112 yX5_isNumber, .static yX5_isNumber, .initialized RX5, .code yX5_isNumber cX5_isNumber 1 (some .boolean), .methodLink RX5 39 yX5_in, .static yX5_in, .code yX5_in cX5_in 3 (some .boolean), .methodLink RX5 51 yX5_isIn, .instanceMethod yX5_isIn, .selects RX5 yX5_isIn yX5_isIn, .code yX5_isIn cX5_isIn 3 (some .boolean), .methodLink RX5 43 yX5_of, .instanceMethod yX5_of, .selects RX5 yX5_of yX5_of, .code yX5_of cX5_of 3 (some .int), .fieldLink RX5 7 "BoatSetsModel" "now" "[I"] ++ wsX50)
def wsX5_sumOf_r1 : List Cond := [Cond.methodLink RX5 62 yX5_kindOf, Cond.instanceMethod yX5_kindOf, Cond.selects RX5 yX5_kindOf yX5_kindOf, Cond.initialized RX5, Cond.code yX5_kindOf cX5_kindOf 3 (some .int), Cond.methodLink RX5 43 yX5_of, Cond.instanceMethod yX5_of, Cond.selects RX5 yX5_of yX5_of, Cond.code yX5_of cX5_of 3 (some .int), Cond.fieldLink RX5 7 "BoatSetsModel" "now" "[I", Cond.methodLink RX5 65 yX5_manyIn, Cond.instanceMethod yX5_manyIn, Cond.selects RX5 yX5_manyIn yX5_manyIn, Cond.code yX5_manyIn cX5_manyIn 5 (some .int), Cond.methodLink RX5 51 yX5_isIn, Cond.instanceMethod yX5_isIn, Cond.selects RX5 yX5_isIn yX5_isIn, Cond.code yX5_isIn cX5_isIn 3 (some .boolean), Cond.methodLink RX5 68 yX5_runsIn, Cond.instanceMethod yX5_runsIn, Cond.selects RX5 yX5_runsIn yX5_runsIn, Cond.code yX5_runsIn cX5_runsIn 5 (some .int), Cond.methodLink RX5 58 yX5_units, Cond.static yX5_units]
def wsX5_sumOf_r2 : List Cond := [Cond.code yX5_units cX5_units 3 (some .int), Cond.methodLink RX5 71 yX5_best, Cond.static yX5_best, Cond.code yX5_best cX5_best 3 (some .int), Cond.methodLink RX5 55 yX5_holds, Cond.static yX5_holds, Cond.code yX5_holds cX5_holds 3 (some .boolean)]
def wsX5_sumOf : List Cond := .code yX5_sumOf cX5_sumOf 7 (some .int) :: ((wsX5_sumOf_r1 ++ wsX5_sumOf_r2) ++ wsX50)
def wsX5_set_r1 : List Cond := [Cond.methodLink RX5 92 yX5_isSet, Cond.instanceMethod yX5_isSet, Cond.selects RX5 yX5_isSet yX5_isSet, Cond.initialized RX5, Cond.code yX5_isSet cX5_isSet 2 (some .boolean), Cond.fieldLink RX5 7 "BoatSetsModel" "now" "[I", Cond.methodLink RX5 39 yX5_in, Cond.static yX5_in, Cond.code yX5_in cX5_in 3 (some .boolean), Cond.methodLink RX5 159 yX5_rankOf, Cond.instanceMethod yX5_rankOf, Cond.selects RX5 yX5_rankOf yX5_rankOf, Cond.code yX5_rankOf cX5_rankOf 5 (some .int), Cond.methodLink RX5 51 yX5_isIn, Cond.instanceMethod yX5_isIn, Cond.selects RX5 yX5_isIn yX5_isIn, Cond.code yX5_isIn cX5_isIn 3 (some .boolean), Cond.methodLink RX5 43 yX5_of, Cond.instanceMethod yX5_of, Cond.selects RX5 yX5_of yX5_of, Cond.code yX5_of cX5_of 3 (some .int), Cond.methodLink RX5 96 yX5_boatsOf, Cond.instanceMethod yX5_boatsOf, Cond.selects RX5 yX5_boatsOf yX5_boatsOf]
def wsX5_set_r2 : List Cond := [Cond.code yX5_boatsOf cX5_boatsOf 4 (some .int), Cond.methodLink RX5 62 yX5_kindOf, Cond.instanceMethod yX5_kindOf, Cond.selects RX5 yX5_kindOf yX5_kindOf, Cond.code yX5_kindOf cX5_kindOf 3 (some .int), Cond.methodLink RX5 162 yX5_sumOf, Cond.instanceMethod yX5_sumOf, Cond.selects RX5 yX5_sumOf yX5_sumOf, Cond.code yX5_sumOf cX5_sumOf 7 (some .int), Cond.methodLink RX5 65 yX5_manyIn, Cond.instanceMethod yX5_manyIn, Cond.selects RX5 yX5_manyIn yX5_manyIn, Cond.code yX5_manyIn cX5_manyIn 5 (some .int), Cond.methodLink RX5 68 yX5_runsIn, Cond.instanceMethod yX5_runsIn, Cond.selects RX5 yX5_runsIn yX5_runsIn, Cond.code yX5_runsIn cX5_runsIn 5 (some .int), Cond.methodLink RX5 58 yX5_units, Cond.static yX5_units, Cond.code yX5_units cX5_units 3 (some .int), Cond.methodLink RX5 71 yX5_best, Cond.static yX5_best, Cond.code yX5_best cX5_best 3 (some .int), Cond.methodLink RX5 55 yX5_holds]
def wsX5_set_r3 : List Cond := [Cond.static yX5_holds, Cond.code yX5_holds cX5_holds 3 (some .boolean), Cond.methodLink RX5 165 yX5_firstFrom, Cond.instanceMethod yX5_firstFrom, Cond.selects RX5 yX5_firstFrom yX5_firstFrom, Cond.code yX5_firstFrom cX5_firstFrom 5 (some .int), Cond.methodLink RX5 112 yX5_isNumber, Cond.static yX5_isNumber, Cond.code yX5_isNumber cX5_isNumber 1 (some .boolean)]
def wsX5_set : List Cond := .code yX5_set cX5_set 3 (some .int) :: ((wsX5_set_r1 ++ (wsX5_set_r2 ++ wsX5_set_r3)) ++ wsX50)
def wsX5_boat_r1 : List Cond := [Cond.methodLink RX5 92 yX5_isSet, Cond.instanceMethod yX5_isSet, Cond.selects RX5 yX5_isSet yX5_isSet, Cond.initialized RX5, Cond.code yX5_isSet cX5_isSet 2 (some .boolean), Cond.fieldLink RX5 7 "BoatSetsModel" "now" "[I", Cond.methodLink RX5 39 yX5_in, Cond.static yX5_in, Cond.code yX5_in cX5_in 3 (some .boolean), Cond.methodLink RX5 62 yX5_kindOf, Cond.instanceMethod yX5_kindOf, Cond.selects RX5 yX5_kindOf yX5_kindOf, Cond.code yX5_kindOf cX5_kindOf 3 (some .int), Cond.methodLink RX5 43 yX5_of, Cond.instanceMethod yX5_of, Cond.selects RX5 yX5_of yX5_of, Cond.code yX5_of cX5_of 3 (some .int), Cond.methodLink RX5 65 yX5_manyIn, Cond.instanceMethod yX5_manyIn, Cond.selects RX5 yX5_manyIn yX5_manyIn, Cond.code yX5_manyIn cX5_manyIn 5 (some .int), Cond.methodLink RX5 51 yX5_isIn, Cond.instanceMethod yX5_isIn, Cond.selects RX5 yX5_isIn yX5_isIn]
def wsX5_boat_r2 : List Cond := [Cond.code yX5_isIn cX5_isIn 3 (some .boolean), Cond.methodLink RX5 68 yX5_runsIn, Cond.instanceMethod yX5_runsIn, Cond.selects RX5 yX5_runsIn yX5_runsIn, Cond.code yX5_runsIn cX5_runsIn 5 (some .int), Cond.methodLink RX5 103 yX5_unitsOf, Cond.instanceMethod yX5_unitsOf, Cond.selects RX5 yX5_unitsOf yX5_unitsOf, Cond.code yX5_unitsOf cX5_unitsOf 3 (some .int), Cond.methodLink RX5 58 yX5_units, Cond.static yX5_units, Cond.code yX5_units cX5_units 3 (some .int), Cond.methodLink RX5 74 yX5_bestOf, Cond.instanceMethod yX5_bestOf, Cond.selects RX5 yX5_bestOf yX5_bestOf, Cond.code yX5_bestOf cX5_bestOf 3 (some .int), Cond.methodLink RX5 71 yX5_best, Cond.static yX5_best, Cond.code yX5_best cX5_best 3 (some .int), Cond.methodLink RX5 55 yX5_holds, Cond.static yX5_holds, Cond.code yX5_holds cX5_holds 3 (some .boolean), Cond.methodLink RX5 77 yX5_tollOf, Cond.instanceMethod yX5_tollOf]
def wsX5_boat_r3 : List Cond := [Cond.selects RX5 yX5_tollOf yX5_tollOf, Cond.code yX5_tollOf cX5_tollOf 4 (some .int)]
def wsX5_boat : List Cond := .code yX5_boat cX5_boat 4 (some .int) :: ((wsX5_boat_r1 ++ (wsX5_boat_r2 ++ wsX5_boat_r3)) ++ wsX50)
def wsX5_rank : List Cond := .code yX5_rank cX5_rank 3 (some .int) :: ([.methodLink RX5 92 yX5_isSet, .instanceMethod yX5_isSet, .selects RX5 yX5_isSet yX5_isSet, .initialized RX5, .code yX5_isSet cX5_isSet 2 (some .boolean), .fieldLink RX5 7 "BoatSetsModel" "now" "[I", .methodLink RX5 39 yX5_in, .static yX5_in, .code yX5_in cX5_in 3 (some .boolean), .methodLink RX5 112 yX5_isNumber, .static yX5_isNumber, .code yX5_isNumber cX5_isNumber 1 (some .boolean), .methodLink RX5 159 yX5_rankOf, .instanceMethod yX5_rankOf, .selects RX5 yX5_rankOf yX5_rankOf, .code yX5_rankOf cX5_rankOf 5 (some .int), .methodLink RX5 51 yX5_isIn, .instanceMethod yX5_isIn, .selects RX5 yX5_isIn yX5_isIn, .code yX5_isIn cX5_isIn 3 (some .boolean), .methodLink RX5 43 yX5_of, .instanceMethod yX5_of, .selects RX5 yX5_of yX5_of, .code yX5_of cX5_of 3 (some .int)] ++ wsX50)
def wsX5_at : List Cond := .code yX5_at cX5_at 5 (some .int) :: ([.methodLink RX5 92 yX5_isSet, .instanceMethod yX5_isSet, .selects RX5 yX5_isSet yX5_isSet, .initialized RX5, .code yX5_isSet cX5_isSet 2 (some .boolean), .fieldLink RX5 7 "BoatSetsModel" "now" "[I", .methodLink RX5 39 yX5_in, .static yX5_in, .code yX5_in cX5_in 3 (some .boolean), .methodLink RX5 51 yX5_isIn, .instanceMethod yX5_isIn, .selects RX5 yX5_isIn yX5_isIn, .code yX5_isIn cX5_isIn 3 (some .boolean), .methodLink RX5 43 yX5_of, .instanceMethod yX5_of, .selects RX5 yX5_of yX5_of, .code yX5_of cX5_of 3 (some .int)] ++ wsX50)
def wsX5_next : List Cond := .code yX5_next cX5_next 3 (some .int) :: ([.methodLink RX5 92 yX5_isSet, .instanceMethod yX5_isSet, .selects RX5 yX5_isSet yX5_isSet, .initialized RX5, .code yX5_isSet cX5_isSet 2 (some .boolean), .fieldLink RX5 7 "BoatSetsModel" "now" "[I", .methodLink RX5 39 yX5_in, .static yX5_in, .code yX5_in cX5_in 3 (some .boolean), .methodLink RX5 112 yX5_isNumber, .static yX5_isNumber, .code yX5_isNumber cX5_isNumber 1 (some .boolean), .methodLink RX5 165 yX5_firstFrom, .instanceMethod yX5_firstFrom, .selects RX5 yX5_firstFrom yX5_firstFrom, .code yX5_firstFrom cX5_firstFrom 5 (some .int), .methodLink RX5 51 yX5_isIn, .instanceMethod yX5_isIn, .selects RX5 yX5_isIn yX5_isIn, .code yX5_isIn cX5_isIn 3 (some .boolean), .methodLink RX5 43 yX5_of, .instanceMethod yX5_of, .selects RX5 yX5_of yX5_of, .code yX5_of cX5_of 3 (some .int)] ++ wsX50)
def wsX5_nearest : List Cond := .code yX5_nearest cX5_nearest 5 (some .int) :: ([.methodLink RX5 92 yX5_isSet, .instanceMethod yX5_isSet, .selects RX5 yX5_isSet yX5_isSet, .initialized RX5, .code yX5_isSet cX5_isSet 2 (some .boolean), .fieldLink RX5 7 "BoatSetsModel" "now" "[I", .methodLink RX5 39 yX5_in, .static yX5_in, .code yX5_in cX5_in 3 (some .boolean), .methodLink RX5 112 yX5_isNumber, .static yX5_isNumber, .code yX5_isNumber cX5_isNumber 1 (some .boolean), .methodLink RX5 165 yX5_firstFrom, .instanceMethod yX5_firstFrom, .selects RX5 yX5_firstFrom yX5_firstFrom, .code yX5_firstFrom cX5_firstFrom 5 (some .int), .methodLink RX5 51 yX5_isIn, .instanceMethod yX5_isIn, .selects RX5 yX5_isIn yX5_isIn, .code yX5_isIn cX5_isIn 3 (some .boolean), .methodLink RX5 43 yX5_of, .instanceMethod yX5_of, .selects RX5 yX5_of yX5_of, .code yX5_of cX5_of 3 (some .int)] ++ wsX50)
def wsX5_gap : List Cond := .code yX5_gap cX5_gap 5 (some .int) :: ([.methodLink RX5 92 yX5_isSet, .instanceMethod yX5_isSet, .selects RX5 yX5_isSet yX5_isSet, .initialized RX5, .code yX5_isSet cX5_isSet 2 (some .boolean), .fieldLink RX5 7 "BoatSetsModel" "now" "[I", .methodLink RX5 39 yX5_in, .static yX5_in, .code yX5_in cX5_in 3 (some .boolean), .methodLink RX5 51 yX5_isIn, .instanceMethod yX5_isIn, .selects RX5 yX5_isIn yX5_isIn, .code yX5_isIn cX5_isIn 3 (some .boolean), .methodLink RX5 43 yX5_of, .instanceMethod yX5_of, .selects RX5 yX5_of yX5_of, .code yX5_of cX5_of 3 (some .int)] ++ wsX50)
def wsX5_sizeOf_r1 : List Cond := [Cond.methodLink RX5 92 yX5_isSet, Cond.instanceMethod yX5_isSet, Cond.selects RX5 yX5_isSet yX5_isSet, Cond.initialized RX5, Cond.code yX5_isSet cX5_isSet 2 (some .boolean), Cond.fieldLink RX5 7 "BoatSetsModel" "now" "[I", Cond.methodLink RX5 39 yX5_in, Cond.static yX5_in, Cond.code yX5_in cX5_in 3 (some .boolean), Cond.methodLink RX5 133 yX5_laysGiven, Cond.instanceMethod yX5_laysGiven, Cond.selects RX5 yX5_laysGiven yX5_laysGiven, Cond.code yX5_laysGiven cX5_laysGiven 6 (some .int), Cond.fieldLink RX5 25 "BoatSetsModel" "given" "[I", Cond.methodLink RX5 51 yX5_isIn, Cond.instanceMethod yX5_isIn, Cond.selects RX5 yX5_isIn yX5_isIn, Cond.code yX5_isIn cX5_isIn 3 (some .boolean), Cond.methodLink RX5 43 yX5_of, Cond.instanceMethod yX5_of, Cond.selects RX5 yX5_of yX5_of, Cond.code yX5_of cX5_of 3 (some .int), Cond.methodLink RX5 129 yX5_gives, Cond.static yX5_gives]
def wsX5_sizeOf_r2 : List Cond := [Cond.code yX5_gives cX5_gives 3 (some .boolean)]
def wsX5_sizeOf : List Cond := .code yX5_sizeOf cX5_sizeOf 4 (some .int) :: ((wsX5_sizeOf_r1 ++ wsX5_sizeOf_r2) ++ wsX50)
def wsX5_setsWith : List Cond := .code yX5_setsWith cX5_setsWith 4 (some .int) :: ([.fieldLink RX5 7 "BoatSetsModel" "now" "[I", .methodLink RX5 51 yX5_isIn, .instanceMethod yX5_isIn, .selects RX5 yX5_isIn yX5_isIn, .initialized RX5, .code yX5_isIn cX5_isIn 3 (some .boolean), .methodLink RX5 43 yX5_of, .instanceMethod yX5_of, .selects RX5 yX5_of yX5_of, .code yX5_of cX5_of 3 (some .int)] ++ wsX50)
def wsX5_ofAll : List Cond := .code yX5_ofAll cX5_ofAll 5 (some .int) :: ([.methodLink RX5 168 yX5_setsWith, .instanceMethod yX5_setsWith, .selects RX5 yX5_setsWith yX5_setsWith, .initialized RX5, .code yX5_setsWith cX5_setsWith 4 (some .int), .fieldLink RX5 7 "BoatSetsModel" "now" "[I", .methodLink RX5 51 yX5_isIn, .instanceMethod yX5_isIn, .selects RX5 yX5_isIn yX5_isIn, .code yX5_isIn cX5_isIn 3 (some .boolean), .methodLink RX5 43 yX5_of, .instanceMethod yX5_of, .selects RX5 yX5_of yX5_of, .code yX5_of cX5_of 3 (some .int)] ++ wsX50)
def wsX5_most : List Cond := .code yX5_most cX5_most 5 (some .int) :: ([.methodLink RX5 168 yX5_setsWith, .instanceMethod yX5_setsWith, .selects RX5 yX5_setsWith yX5_setsWith, .initialized RX5, .code yX5_setsWith cX5_setsWith 4 (some .int), .fieldLink RX5 7 "BoatSetsModel" "now" "[I", .methodLink RX5 51 yX5_isIn, .instanceMethod yX5_isIn, .selects RX5 yX5_isIn yX5_isIn, .code yX5_isIn cX5_isIn 3 (some .boolean), .methodLink RX5 43 yX5_of, .instanceMethod yX5_of, .selects RX5 yX5_of yX5_of, .code yX5_of cX5_of 3 (some .int)] ++ wsX50)
def wsX5_tollToDock_r1 : List Cond := [Cond.fieldLink RX5 7 "BoatSetsModel" "now" "[I", Cond.fieldLink RX5 19 "BoatSetsModel" "trial" "[I", Cond.methodLink RX5 92 yX5_isSet, Cond.instanceMethod yX5_isSet, Cond.selects RX5 yX5_isSet yX5_isSet, Cond.initialized RX5, Cond.code yX5_isSet cX5_isSet 2 (some .boolean), Cond.methodLink RX5 39 yX5_in, Cond.static yX5_in, Cond.code yX5_in cX5_in 3 (some .boolean), Cond.methodLink RX5 35 yX5_copies, Cond.static yX5_copies, Cond.code yX5_copies cX5_copies 5 none, Cond.methodLink RX5 109 yX5_docks, Cond.instanceMethod yX5_docks, Cond.selects RX5 yX5_docks yX5_docks, Cond.code yX5_docks cX5_docks 4 (some .int), Cond.fieldLink RX5 100 "BoatSetsModel" "looked" "I", Cond.methodLink RX5 43 yX5_of, Cond.instanceMethod yX5_of, Cond.selects RX5 yX5_of yX5_of, Cond.code yX5_of cX5_of 3 (some .int), Cond.methodLink RX5 47 yX5_lays, Cond.instanceMethod yX5_lays]
def wsX5_tollToDock_r2 : List Cond := [Cond.selects RX5 yX5_lays yX5_lays, Cond.code yX5_lays cX5_lays 4 none, Cond.methodLink RX5 106 yX5_nextToDock, Cond.instanceMethod yX5_nextToDock, Cond.selects RX5 yX5_nextToDock yX5_nextToDock, Cond.code yX5_nextToDock cX5_nextToDock 7 (some .int), Cond.methodLink RX5 62 yX5_kindOf, Cond.instanceMethod yX5_kindOf, Cond.selects RX5 yX5_kindOf yX5_kindOf, Cond.code yX5_kindOf cX5_kindOf 3 (some .int), Cond.methodLink RX5 77 yX5_tollOf, Cond.instanceMethod yX5_tollOf, Cond.selects RX5 yX5_tollOf yX5_tollOf, Cond.code yX5_tollOf cX5_tollOf 4 (some .int), Cond.methodLink RX5 74 yX5_bestOf, Cond.instanceMethod yX5_bestOf, Cond.selects RX5 yX5_bestOf yX5_bestOf, Cond.code yX5_bestOf cX5_bestOf 3 (some .int), Cond.methodLink RX5 65 yX5_manyIn, Cond.instanceMethod yX5_manyIn, Cond.selects RX5 yX5_manyIn yX5_manyIn, Cond.code yX5_manyIn cX5_manyIn 5 (some .int), Cond.methodLink RX5 51 yX5_isIn, Cond.instanceMethod yX5_isIn]
def wsX5_tollToDock_r3 : List Cond := [Cond.selects RX5 yX5_isIn yX5_isIn, Cond.code yX5_isIn cX5_isIn 3 (some .boolean), Cond.methodLink RX5 68 yX5_runsIn, Cond.instanceMethod yX5_runsIn, Cond.selects RX5 yX5_runsIn yX5_runsIn, Cond.code yX5_runsIn cX5_runsIn 5 (some .int), Cond.methodLink RX5 71 yX5_best, Cond.static yX5_best, Cond.code yX5_best cX5_best 3 (some .int), Cond.methodLink RX5 55 yX5_holds, Cond.static yX5_holds, Cond.code yX5_holds cX5_holds 3 (some .boolean), Cond.methodLink RX5 58 yX5_units, Cond.static yX5_units, Cond.code yX5_units cX5_units 3 (some .int), Cond.methodLink RX5 103 yX5_unitsOf, Cond.instanceMethod yX5_unitsOf, Cond.selects RX5 yX5_unitsOf yX5_unitsOf, Cond.code yX5_unitsOf cX5_unitsOf 3 (some .int), Cond.methodLink RX5 84 yX5_becomes, Cond.instanceMethod yX5_becomes, Cond.selects RX5 yX5_becomes yX5_becomes, Cond.code yX5_becomes cX5_becomes 4 none]
def wsX5_tollToDock : List Cond := .code yX5_tollToDock cX5_tollToDock 3 (some .int) :: ((wsX5_tollToDock_r1 ++ (wsX5_tollToDock_r2 ++ wsX5_tollToDock_r3)) ++ wsX50)
def wsX5_overAll_r1 : List Cond := [Cond.fieldLink RX5 7 "BoatSetsModel" "now" "[I", Cond.methodLink RX5 171 yX5_set, Cond.instanceMethod yX5_set, Cond.selects RX5 yX5_set yX5_set, Cond.initialized RX5, Cond.code yX5_set cX5_set 3 (some .int), Cond.methodLink RX5 92 yX5_isSet, Cond.instanceMethod yX5_isSet, Cond.selects RX5 yX5_isSet yX5_isSet, Cond.code yX5_isSet cX5_isSet 2 (some .boolean), Cond.methodLink RX5 39 yX5_in, Cond.static yX5_in, Cond.code yX5_in cX5_in 3 (some .boolean), Cond.methodLink RX5 159 yX5_rankOf, Cond.instanceMethod yX5_rankOf, Cond.selects RX5 yX5_rankOf yX5_rankOf, Cond.code yX5_rankOf cX5_rankOf 5 (some .int), Cond.methodLink RX5 51 yX5_isIn, Cond.instanceMethod yX5_isIn, Cond.selects RX5 yX5_isIn yX5_isIn, Cond.code yX5_isIn cX5_isIn 3 (some .boolean), Cond.methodLink RX5 43 yX5_of, Cond.instanceMethod yX5_of, Cond.selects RX5 yX5_of yX5_of]
def wsX5_overAll_r2 : List Cond := [Cond.code yX5_of cX5_of 3 (some .int), Cond.methodLink RX5 96 yX5_boatsOf, Cond.instanceMethod yX5_boatsOf, Cond.selects RX5 yX5_boatsOf yX5_boatsOf, Cond.code yX5_boatsOf cX5_boatsOf 4 (some .int), Cond.methodLink RX5 62 yX5_kindOf, Cond.instanceMethod yX5_kindOf, Cond.selects RX5 yX5_kindOf yX5_kindOf, Cond.code yX5_kindOf cX5_kindOf 3 (some .int), Cond.methodLink RX5 162 yX5_sumOf, Cond.instanceMethod yX5_sumOf, Cond.selects RX5 yX5_sumOf yX5_sumOf, Cond.code yX5_sumOf cX5_sumOf 7 (some .int), Cond.methodLink RX5 65 yX5_manyIn, Cond.instanceMethod yX5_manyIn, Cond.selects RX5 yX5_manyIn yX5_manyIn, Cond.code yX5_manyIn cX5_manyIn 5 (some .int), Cond.methodLink RX5 68 yX5_runsIn, Cond.instanceMethod yX5_runsIn, Cond.selects RX5 yX5_runsIn yX5_runsIn, Cond.code yX5_runsIn cX5_runsIn 5 (some .int), Cond.methodLink RX5 58 yX5_units, Cond.static yX5_units, Cond.code yX5_units cX5_units 3 (some .int)]
def wsX5_overAll_r3 : List Cond := [Cond.methodLink RX5 71 yX5_best, Cond.static yX5_best, Cond.code yX5_best cX5_best 3 (some .int), Cond.methodLink RX5 55 yX5_holds, Cond.static yX5_holds, Cond.code yX5_holds cX5_holds 3 (some .boolean), Cond.methodLink RX5 165 yX5_firstFrom, Cond.instanceMethod yX5_firstFrom, Cond.selects RX5 yX5_firstFrom yX5_firstFrom, Cond.code yX5_firstFrom cX5_firstFrom 5 (some .int), Cond.methodLink RX5 112 yX5_isNumber, Cond.static yX5_isNumber, Cond.code yX5_isNumber cX5_isNumber 1 (some .boolean)]
def wsX5_overAll : List Cond := .code yX5_overAll cX5_overAll 5 (some .int) :: ((wsX5_overAll_r1 ++ (wsX5_overAll_r2 ++ wsX5_overAll_r3)) ++ wsX50)
def wsX5_different : List Cond := .code yX5_different cX5_different 3 (some .int) :: ([.methodLink RX5 168 yX5_setsWith, .instanceMethod yX5_setsWith, .selects RX5 yX5_setsWith yX5_setsWith, .initialized RX5, .code yX5_setsWith cX5_setsWith 4 (some .int), .fieldLink RX5 7 "BoatSetsModel" "now" "[I", .methodLink RX5 51 yX5_isIn, .instanceMethod yX5_isIn, .selects RX5 yX5_isIn yX5_isIn, .code yX5_isIn cX5_isIn 3 (some .boolean), .methodLink RX5 43 yX5_of, .instanceMethod yX5_of, .selects RX5 yX5_of yX5_of, .code yX5_of cX5_of 3 (some .int)] ++ wsX50)
def wsX5_count_r1 : List Cond := [Cond.fieldLink RX5 7 "BoatSetsModel" "now" "[I", Cond.fieldLink RX5 31 "BoatSetsModel" "pasts" "I", Cond.fieldLink RX5 136 "BoatSetsModel" "typed" "I", Cond.methodLink RX5 174 yX5_overAll, Cond.instanceMethod yX5_overAll, Cond.selects RX5 yX5_overAll yX5_overAll, Cond.initialized RX5, Cond.code yX5_overAll cX5_overAll 5 (some .int), Cond.methodLink RX5 171 yX5_set, Cond.instanceMethod yX5_set, Cond.selects RX5 yX5_set yX5_set, Cond.code yX5_set cX5_set 3 (some .int), Cond.methodLink RX5 92 yX5_isSet, Cond.instanceMethod yX5_isSet, Cond.selects RX5 yX5_isSet yX5_isSet, Cond.code yX5_isSet cX5_isSet 2 (some .boolean), Cond.methodLink RX5 39 yX5_in, Cond.static yX5_in, Cond.code yX5_in cX5_in 3 (some .boolean), Cond.methodLink RX5 159 yX5_rankOf, Cond.instanceMethod yX5_rankOf, Cond.selects RX5 yX5_rankOf yX5_rankOf, Cond.code yX5_rankOf cX5_rankOf 5 (some .int), Cond.methodLink RX5 51 yX5_isIn]
def wsX5_count_r2 : List Cond := [Cond.instanceMethod yX5_isIn, Cond.selects RX5 yX5_isIn yX5_isIn, Cond.code yX5_isIn cX5_isIn 3 (some .boolean), Cond.methodLink RX5 43 yX5_of, Cond.instanceMethod yX5_of, Cond.selects RX5 yX5_of yX5_of, Cond.code yX5_of cX5_of 3 (some .int), Cond.methodLink RX5 96 yX5_boatsOf, Cond.instanceMethod yX5_boatsOf, Cond.selects RX5 yX5_boatsOf yX5_boatsOf, Cond.code yX5_boatsOf cX5_boatsOf 4 (some .int), Cond.methodLink RX5 62 yX5_kindOf, Cond.instanceMethod yX5_kindOf, Cond.selects RX5 yX5_kindOf yX5_kindOf, Cond.code yX5_kindOf cX5_kindOf 3 (some .int), Cond.methodLink RX5 162 yX5_sumOf, Cond.instanceMethod yX5_sumOf, Cond.selects RX5 yX5_sumOf yX5_sumOf, Cond.code yX5_sumOf cX5_sumOf 7 (some .int), Cond.methodLink RX5 65 yX5_manyIn, Cond.instanceMethod yX5_manyIn, Cond.selects RX5 yX5_manyIn yX5_manyIn, Cond.code yX5_manyIn cX5_manyIn 5 (some .int), Cond.methodLink RX5 68 yX5_runsIn]
def wsX5_count_r3 : List Cond := [Cond.instanceMethod yX5_runsIn, Cond.selects RX5 yX5_runsIn yX5_runsIn, Cond.code yX5_runsIn cX5_runsIn 5 (some .int), Cond.methodLink RX5 58 yX5_units, Cond.static yX5_units, Cond.code yX5_units cX5_units 3 (some .int), Cond.methodLink RX5 71 yX5_best, Cond.static yX5_best, Cond.code yX5_best cX5_best 3 (some .int), Cond.methodLink RX5 55 yX5_holds, Cond.static yX5_holds, Cond.code yX5_holds cX5_holds 3 (some .boolean), Cond.methodLink RX5 165 yX5_firstFrom, Cond.instanceMethod yX5_firstFrom, Cond.selects RX5 yX5_firstFrom yX5_firstFrom, Cond.code yX5_firstFrom cX5_firstFrom 5 (some .int), Cond.methodLink RX5 112 yX5_isNumber, Cond.static yX5_isNumber, Cond.code yX5_isNumber cX5_isNumber 1 (some .boolean), Cond.methodLink RX5 177 yX5_different, Cond.instanceMethod yX5_different, Cond.selects RX5 yX5_different yX5_different, Cond.code yX5_different cX5_different 3 (some .int), Cond.methodLink RX5 168 yX5_setsWith]
def wsX5_count_r4 : List Cond := [Cond.instanceMethod yX5_setsWith, Cond.selects RX5 yX5_setsWith yX5_setsWith, Cond.code yX5_setsWith cX5_setsWith 4 (some .int)]
def wsX5_count : List Cond := .code yX5_count cX5_count 2 (some .int) :: ((wsX5_count_r1 ++ (wsX5_count_r2 ++ (wsX5_count_r3 ++ wsX5_count_r4))) ++ wsX50)
def wsJ9_max_7cf53 : List Cond := .code yJ9_max_7cf53 cJ9_max_7cf53 2 (some .int) :: ([])
def wsJ9_min_7cf53 : List Cond := .code yJ9_min_7cf53 cJ9_min_7cf53 2 (some .int) :: ([])
def wsL_law_r1 : List Cond := [Cond.classLink RL 7 RX4, Cond.instantiable RX4 6, Cond.initialized RX4, Cond.classLink RL 10 RX5, Cond.instantiable RX5 13, Cond.initialized RX5, Cond.methodLink RL 9 yX4_init, Cond.instanceMethod yX4_init, Cond.code yX4_init cX4_init 1 none, Cond.methodLink RX4 1 objectInit, Cond.instanceMethod objectInit, Cond.code objectInit ⟨#[0xb1]⟩ 1 none, Cond.classLink RX4 7 RX1, Cond.instantiable RX1 2, Cond.initialized RX1, Cond.fieldLink RX4 10 "BoatSets" "now" "LBoatSets$Harbour;", Cond.fieldLink RX4 16 "BoatSets" "snapshot" "LBoatSets$Harbour;", Cond.classLink RX4 19 RX2, Cond.instantiable RX2 2, Cond.initialized RX2, Cond.fieldLink RX4 22 "BoatSets" "past" "LBoatSets$History;", Cond.classLink RX4 26 RX3, Cond.instantiable RX3 5, Cond.initialized RX3]
def wsL_law_r2 : List Cond := [Cond.fieldLink RX4 29 "BoatSets" "text" "LBoatSets$RangeText;", Cond.classLink RX4 33 RX0, Cond.instantiable RX0 7, Cond.initialized RX0, Cond.fieldLink RX4 36 "BoatSets" "trial" "LBoatSets$Fleet;", Cond.fieldLink RX4 40 "BoatSets" "hasSnapshot" "Z", Cond.methodLink RX4 9 yX1_init, Cond.instanceMethod yX1_init, Cond.code yX1_init cX1_init 2 none, Cond.methodLink RX1 3 objectInit, Cond.classLink RX1 9 RX0, Cond.fieldLink RX1 11 "BoatSets$Harbour" "fleets" "[LBoatSets$Fleet;", Cond.methodLink RX1 17 yX0_init, Cond.instanceMethod yX0_init, Cond.code yX0_init cX0_init 1 none, Cond.methodLink RX0 3 objectInit, Cond.arrayClass .long, Cond.fieldLink RX0 9 "BoatSets$Fleet" "words" "[J", Cond.arrayClass .int, Cond.fieldLink RX0 15 "BoatSets$Fleet" "kinds" "[I", Cond.fieldLink RX0 19 "BoatSets$Fleet" "sizes" "[I", Cond.fieldLink RX0 22 "BoatSets$Fleet" "runs" "[I", Cond.methodLink RX4 21 yX2_init, Cond.instanceMethod yX2_init]
def wsL_law_r3 : List Cond := [Cond.code yX2_init cX2_init 2 none, Cond.methodLink RX2 3 objectInit, Cond.classLink RX2 9 RX1, Cond.fieldLink RX2 11 "BoatSets$History" "states" "[LBoatSets$Harbour;", Cond.methodLink RX2 17 yX1_init, Cond.methodLink RX4 28 yX3_init, Cond.instanceMethod yX3_init, Cond.code yX3_init cX3_init 1 none, Cond.methodLink RX3 3 objectInit, Cond.arrayClass .char, Cond.fieldLink RX3 9 "BoatSets$RangeText" "characters" "[C", Cond.fieldLink RX3 15 "BoatSets$RangeText" "firsts" "[I", Cond.fieldLink RX3 19 "BoatSets$RangeText" "lasts" "[I", Cond.methodLink RX4 35 yX0_init, Cond.methodLink RL 12 yX5_init, Cond.instanceMethod yX5_init, Cond.code yX5_init cX5_init 1 none, Cond.methodLink RX5 1 objectInit, Cond.fieldLink RX5 7 "BoatSetsModel" "now" "[I", Cond.fieldLink RX5 13 "BoatSetsModel" "past" "[I", Cond.fieldLink RX5 16 "BoatSetsModel" "kept" "[I", Cond.fieldLink RX5 19 "BoatSetsModel" "trial" "[I", Cond.fieldLink RX5 22 "BoatSetsModel" "text" "[I", Cond.fieldLink RX5 25 "BoatSetsModel" "given" "[I"]
def wsL_law_r4 : List Cond := [Cond.fieldLink RX5 28 "BoatSetsModel" "numbers" "[I", Cond.methodLink RL 13 yX4_newSet, Cond.instanceMethod yX4_newSet, Cond.selects RX4 yX4_newSet yX4_newSet, Cond.code yX4_newSet cX4_newSet 2 (some .int), Cond.fieldLink RX4 44 "BoatSets$Harbour" "sets" "I", Cond.methodLink RX4 48 yX2_push, Cond.instanceMethod yX2_push, Cond.selects RX2 yX2_push yX2_push, Cond.code yX2_push cX2_push 2 none, Cond.fieldLink RX2 18 "BoatSets$History" "size" "I", Cond.methodLink RX2 22 yX2_dropOldest, Cond.instanceMethod yX2_dropOldest, Cond.selects RX2 yX2_dropOldest yX2_dropOldest, Cond.code yX2_dropOldest cX2_dropOldest 3 none, Cond.methodLink RX2 25 yX1_copyFrom, Cond.instanceMethod yX1_copyFrom, Cond.selects RX1 yX1_copyFrom yX1_copyFrom, Cond.code yX1_copyFrom cX1_copyFrom 3 none, Cond.fieldLink RX1 18 "BoatSets$Harbour" "sets" "I", Cond.methodLink RX1 22 yX0_copyFrom, Cond.instanceMethod yX0_copyFrom, Cond.selects RX0 yX0_copyFrom yX0_copyFrom, Cond.code yX0_copyFrom cX0_copyFrom 2 none]
def wsL_law_r5 : List Cond := [Cond.methodLink RX0 48 arraycopyName, Cond.native arraycopyName, Cond.static arraycopyName, Cond.initialized "java/lang/System", Cond.fieldLink RX0 28 "BoatSets$Fleet" "purse" "I", Cond.fieldLink RX0 32 "BoatSets$Fleet" "paid" "I", Cond.fieldLink RX0 35 "BoatSets$Fleet" "atSea" "Z", Cond.methodLink RX4 52 yX1_open, Cond.instanceMethod yX1_open, Cond.selects RX1 yX1_open yX1_open, Cond.code yX1_open cX1_open 2 (some .int), Cond.methodLink RX1 26 yX0_begin, Cond.instanceMethod yX0_begin, Cond.selects RX0 yX0_begin yX0_begin, Cond.code yX0_begin cX0_begin 2 none, Cond.methodLink RX0 25 yX0_clearNumbers, Cond.instanceMethod yX0_clearNumbers, Cond.selects RX0 yX0_clearNumbers yX0_clearNumbers, Cond.code yX0_clearNumbers cX0_clearNumbers 1 none, Cond.methodLink RX0 39 yJ7_fill_d0a16, Cond.static yJ7_fill_d0a16, Cond.initialized RJ7, Cond.code yJ7_fill_d0a16 cJ7_fill_d0a16 5 none, Cond.methodLink RX0 45 yJ7_fill_53178]
def wsL_law_r6 : List Cond := [Cond.static yJ7_fill_53178, Cond.code yJ7_fill_53178 cJ7_fill_53178 4 none, Cond.methodLink RL 17 yX5_newSet, Cond.instanceMethod yX5_newSet, Cond.selects RX5 yX5_newSet yX5_newSet, Cond.code yX5_newSet cX5_newSet 2 (some .int), Cond.methodLink RX5 39 yX5_in, Cond.static yX5_in, Cond.code yX5_in cX5_in 3 (some .boolean), Cond.methodLink RX5 88 yX5_records, Cond.instanceMethod yX5_records, Cond.selects RX5 yX5_records yX5_records, Cond.code yX5_records cX5_records 3 none, Cond.fieldLink RX5 31 "BoatSetsModel" "pasts" "I", Cond.methodLink RX5 35 yX5_copies, Cond.static yX5_copies, Cond.code yX5_copies cX5_copies 5 none, Cond.methodLink RX5 47 yX5_lays, Cond.instanceMethod yX5_lays, Cond.selects RX5 yX5_lays yX5_lays, Cond.code yX5_lays cX5_lays 4 none, Cond.methodLink RL 18 yX4_pay, Cond.instanceMethod yX4_pay, Cond.selects RX4 yX4_pay yX4_pay]
def wsL_law_r7 : List Cond := [Cond.code yX4_pay cX4_pay 4 (some .int), Cond.fieldLink RX4 60 "BoatSets$Harbour" "fleets" "[LBoatSets$Fleet;", Cond.fieldLink RX4 64 "BoatSets$Fleet" "purse" "I", Cond.methodLink RX4 56 yX4_isSet, Cond.instanceMethod yX4_isSet, Cond.selects RX4 yX4_isSet yX4_isSet, Cond.code yX4_isSet cX4_isSet 2 (some .boolean), Cond.methodLink RL 22 yX5_pay, Cond.instanceMethod yX5_pay, Cond.selects RX5 yX5_pay yX5_pay, Cond.code yX5_pay cX5_pay 3 (some .int), Cond.methodLink RX5 92 yX5_isSet, Cond.instanceMethod yX5_isSet, Cond.selects RX5 yX5_isSet yX5_isSet, Cond.code yX5_isSet cX5_isSet 2 (some .boolean), Cond.methodLink RX5 43 yX5_of, Cond.instanceMethod yX5_of, Cond.selects RX5 yX5_of yX5_of, Cond.code yX5_of cX5_of 3 (some .int), Cond.methodLink RL 23 yX4_sail, Cond.instanceMethod yX4_sail, Cond.selects RX4 yX4_sail yX4_sail, Cond.code yX4_sail cX4_sail 3 (some .int), Cond.fieldLink RX4 67 "BoatSets$Fleet" "atSea" "Z"]
def wsL_law_r8 : List Cond := [Cond.methodLink RX4 70 yX0_boats, Cond.instanceMethod yX0_boats, Cond.selects RX0 yX0_boats yX0_boats, Cond.code yX0_boats cX0_boats 1 (some .int), Cond.methodLink RX0 101 yX0_boatsOfKind, Cond.instanceMethod yX0_boatsOfKind, Cond.selects RX0 yX0_boatsOfKind yX0_boatsOfKind, Cond.code yX0_boatsOfKind cX0_boatsOfKind 4 (some .int), Cond.methodLink RL 26 yX5_sail, Cond.instanceMethod yX5_sail, Cond.selects RX5 yX5_sail yX5_sail, Cond.code yX5_sail cX5_sail 2 (some .int), Cond.methodLink RX5 96 yX5_boatsOf, Cond.instanceMethod yX5_boatsOf, Cond.selects RX5 yX5_boatsOf yX5_boatsOf, Cond.code yX5_boatsOf cX5_boatsOf 4 (some .int), Cond.methodLink RX5 62 yX5_kindOf, Cond.instanceMethod yX5_kindOf, Cond.selects RX5 yX5_kindOf yX5_kindOf, Cond.code yX5_kindOf cX5_kindOf 3 (some .int), Cond.methodLink RL 27 yX4_dock, Cond.instanceMethod yX4_dock, Cond.selects RX4 yX4_dock yX4_dock, Cond.code yX4_dock cX4_dock 2 (some .int)]
def wsL_law_r9 : List Cond := [Cond.methodLink RX4 74 yX0_enterHarbour, Cond.instanceMethod yX0_enterHarbour, Cond.selects RX0 yX0_enterHarbour yX0_enterHarbour, Cond.code yX0_enterHarbour cX0_enterHarbour 5 (some .int), Cond.methodLink RX0 94 yX0_baySavingMost, Cond.instanceMethod yX0_baySavingMost, Cond.selects RX0 yX0_baySavingMost yX0_baySavingMost, Cond.code yX0_baySavingMost cX0_baySavingMost 7 (some .int), Cond.methodLink RX0 88 yX0_bestKind, Cond.instanceMethod yX0_bestKind, Cond.selects RX0 yX0_bestKind yX0_bestKind, Cond.code yX0_bestKind cX0_bestKind 3 (some .int), Cond.methodLink RX0 84 yX0_canHold, Cond.instanceMethod yX0_canHold, Cond.selects RX0 yX0_canHold yX0_canHold, Cond.code yX0_canHold cX0_canHold 3 (some .boolean), Cond.methodLink RX0 91 yX0_unitsAs, Cond.instanceMethod yX0_unitsAs, Cond.selects RX0 yX0_unitsAs yX0_unitsAs, Cond.code yX0_unitsAs cX0_unitsAs 3 (some .int), Cond.methodLink RX0 81 yX0_becomeBest, Cond.instanceMethod yX0_becomeBest, Cond.selects RX0 yX0_becomeBest yX0_becomeBest, Cond.code yX0_becomeBest cX0_becomeBest 4 (some .int)]
def wsL_law_r10 : List Cond := [Cond.methodLink RL 30 yX5_dock, Cond.instanceMethod yX5_dock, Cond.selects RX5 yX5_dock yX5_dock, Cond.code yX5_dock cX5_dock 2 (some .int), Cond.methodLink RX5 109 yX5_docks, Cond.instanceMethod yX5_docks, Cond.selects RX5 yX5_docks yX5_docks, Cond.code yX5_docks cX5_docks 4 (some .int), Cond.fieldLink RX5 100 "BoatSetsModel" "looked" "I", Cond.methodLink RX5 106 yX5_nextToDock, Cond.instanceMethod yX5_nextToDock, Cond.selects RX5 yX5_nextToDock yX5_nextToDock, Cond.code yX5_nextToDock cX5_nextToDock 7 (some .int), Cond.methodLink RX5 77 yX5_tollOf, Cond.instanceMethod yX5_tollOf, Cond.selects RX5 yX5_tollOf yX5_tollOf, Cond.code yX5_tollOf cX5_tollOf 4 (some .int), Cond.methodLink RX5 74 yX5_bestOf, Cond.instanceMethod yX5_bestOf, Cond.selects RX5 yX5_bestOf yX5_bestOf, Cond.code yX5_bestOf cX5_bestOf 3 (some .int), Cond.methodLink RX5 65 yX5_manyIn, Cond.instanceMethod yX5_manyIn, Cond.selects RX5 yX5_manyIn yX5_manyIn]
def wsL_law_r11 : List Cond := [Cond.code yX5_manyIn cX5_manyIn 5 (some .int), Cond.methodLink RX5 51 yX5_isIn, Cond.instanceMethod yX5_isIn, Cond.selects RX5 yX5_isIn yX5_isIn, Cond.code yX5_isIn cX5_isIn 3 (some .boolean), Cond.methodLink RX5 68 yX5_runsIn, Cond.instanceMethod yX5_runsIn, Cond.selects RX5 yX5_runsIn yX5_runsIn, Cond.code yX5_runsIn cX5_runsIn 5 (some .int), Cond.methodLink RX5 71 yX5_best, Cond.static yX5_best, Cond.code yX5_best cX5_best 3 (some .int), Cond.methodLink RX5 55 yX5_holds, Cond.static yX5_holds, Cond.code yX5_holds cX5_holds 3 (some .boolean), Cond.methodLink RX5 58 yX5_units, Cond.static yX5_units, Cond.code yX5_units cX5_units 3 (some .int), Cond.methodLink RX5 103 yX5_unitsOf, Cond.instanceMethod yX5_unitsOf, Cond.selects RX5 yX5_unitsOf yX5_unitsOf, Cond.code yX5_unitsOf cX5_unitsOf 3 (some .int), Cond.methodLink RX5 84 yX5_becomes, Cond.instanceMethod yX5_becomes]
def wsL_law_r12 : List Cond := [Cond.selects RX5 yX5_becomes yX5_becomes, Cond.code yX5_becomes cX5_becomes 4 none, Cond.methodLink RL 31 yX4_add, Cond.instanceMethod yX4_add, Cond.selects RX4 yX4_add yX4_add, Cond.code yX4_add cX4_add 4 (some .int), Cond.fieldLink RX4 81 "BoatSets$Fleet" "kinds" "[I", Cond.methodLink RX4 77 yX4_moveRange, Cond.instanceMethod yX4_moveRange, Cond.selects RX4 yX4_moveRange yX4_moveRange, Cond.code yX4_moveRange cX4_moveRange 5 (some .int), Cond.methodLink RX4 141 yX4_isNumber, Cond.static yX4_isNumber, Cond.code yX4_isNumber cX4_isNumber 1 (some .boolean), Cond.methodLink RX4 91 yX0_copyFrom, Cond.methodLink RX4 125 yX0_move, Cond.instanceMethod yX0_move, Cond.selects RX0 yX0_move yX0_move, Cond.code yX0_move cX0_move 8 (some .int), Cond.methodLink RX0 65 Lib.Math.max.name, Cond.static Lib.Math.max.name, Cond.initialized "java/lang/Math", Cond.code Lib.Math.max.name Lib.Math.max.code 2 (some .int), Cond.methodLink RX0 71 Lib.Math.min.name]
def wsL_law_r13 : List Cond := [Cond.static Lib.Math.min.name, Cond.code Lib.Math.min.name Lib.Math.min.code 2 (some .int), Cond.methodLink RX0 58 yX0_holds, Cond.instanceMethod yX0_holds, Cond.selects RX0 yX0_holds yX0_holds, Cond.code yX0_holds cX0_holds 2 (some .boolean), Cond.methodLink RX0 74 yX0_flip, Cond.instanceMethod yX0_flip, Cond.selects RX0 yX0_flip yX0_flip, Cond.code yX0_flip cX0_flip 4 none, Cond.methodLink RX0 61 yX0_neighboursInBay, Cond.instanceMethod yX0_neighboursInBay, Cond.selects RX0 yX0_neighboursInBay yX0_neighboursInBay, Cond.code yX0_neighboursInBay cX0_neighboursInBay 4 (some .int), Cond.methodLink RX0 78 yX0_adaptBoat, Cond.instanceMethod yX0_adaptBoat, Cond.selects RX0 yX0_adaptBoat yX0_adaptBoat, Cond.code yX0_adaptBoat cX0_adaptBoat 2 (some .boolean), Cond.methodLink RX4 129 yX4_settleTrial, Cond.instanceMethod yX4_settleTrial, Cond.selects RX4 yX4_settleTrial yX4_settleTrial, Cond.code yX4_settleTrial cX4_settleTrial 3 (some .int), Cond.methodLink RL 34 yX5_add, Cond.instanceMethod yX5_add]
def wsL_law_r14 : List Cond := [Cond.selects RX5 yX5_add yX5_add, Cond.code yX5_add cX5_add 3 (some .int), Cond.methodLink RX5 112 yX5_isNumber, Cond.static yX5_isNumber, Cond.code yX5_isNumber cX5_isNumber 1 (some .boolean), Cond.methodLink RX5 115 yX5_goes, Cond.instanceMethod yX5_goes, Cond.selects RX5 yX5_goes yX5_goes, Cond.code yX5_goes cX5_goes 5 (some .boolean), Cond.methodLink RX5 80 yX5_puts, Cond.instanceMethod yX5_puts, Cond.selects RX5 yX5_puts yX5_puts, Cond.code yX5_puts cX5_puts 6 none, Cond.methodLink RL 35 yX4_remove, Cond.instanceMethod yX4_remove, Cond.selects RX4 yX4_remove yX4_remove, Cond.code yX4_remove cX4_remove 4 (some .int), Cond.fieldLink RX4 85 "BoatSets$Fleet" "sizes" "[I", Cond.methodLink RL 38 yX5_remove, Cond.instanceMethod yX5_remove, Cond.selects RX5 yX5_remove yX5_remove, Cond.code yX5_remove cX5_remove 3 (some .int), Cond.methodLink RL 39 yX4_addRange, Cond.instanceMethod yX4_addRange]
def wsL_law_r15 : List Cond := [Cond.selects RX4 yX4_addRange yX4_addRange, Cond.code yX4_addRange cX4_addRange 4 (some .int), Cond.methodLink RL 43 yX5_addRange, Cond.instanceMethod yX5_addRange, Cond.selects RX5 yX5_addRange yX5_addRange, Cond.code yX5_addRange cX5_addRange 4 (some .int), Cond.methodLink RX5 126 yX5_ranges, Cond.instanceMethod yX5_ranges, Cond.selects RX5 yX5_ranges yX5_ranges, Cond.code yX5_ranges cX5_ranges 5 (some .int), Cond.methodLink RX5 119 yX5_goesAll, Cond.instanceMethod yX5_goesAll, Cond.selects RX5 yX5_goesAll yX5_goesAll, Cond.code yX5_goesAll cX5_goesAll 7 (some .int), Cond.methodLink RX5 123 yX5_ends, Cond.instanceMethod yX5_ends, Cond.selects RX5 yX5_ends yX5_ends, Cond.code yX5_ends cX5_ends 2 (some .int), Cond.methodLink RL 44 yX4_removeRange, Cond.instanceMethod yX4_removeRange, Cond.selects RX4 yX4_removeRange yX4_removeRange, Cond.code yX4_removeRange cX4_removeRange 4 (some .int), Cond.methodLink RL 47 yX5_removeRange, Cond.instanceMethod yX5_removeRange]
def wsL_law_r16 : List Cond := [Cond.selects RX5 yX5_removeRange yX5_removeRange, Cond.code yX5_removeRange cX5_removeRange 4 (some .int), Cond.methodLink RL 48 yX4_combine, Cond.instanceMethod yX4_combine, Cond.selects RX4 yX4_combine yX4_combine, Cond.code yX4_combine cX4_combine 6 (some .int), Cond.methodLink RX4 88 yX4_isHow, Cond.static yX4_isHow, Cond.code yX4_isHow cX4_isHow 1 (some .boolean), Cond.methodLink RX4 95 yX0_fillWith, Cond.instanceMethod yX0_fillWith, Cond.selects RX0 yX0_fillWith yX0_fillWith, Cond.code yX0_fillWith cX0_fillWith 8 none, Cond.static yX4_join, Cond.code yX4_join cX4_join 5 (some .long), Cond.constantLong RX4 217 (-1), Cond.methodLink RX4 99 yX0_numbers, Cond.instanceMethod yX0_numbers, Cond.selects RX0 yX0_numbers yX0_numbers, Cond.code yX0_numbers cX0_numbers 3 (some .int), Cond.methodLink RL 52 yX5_combine, Cond.instanceMethod yX5_combine, Cond.selects RX5 yX5_combine yX5_combine, Cond.code yX5_combine cX5_combine 7 (some .int)]
def wsL_law_r17 : List Cond := [Cond.methodLink RX5 133 yX5_laysGiven, Cond.instanceMethod yX5_laysGiven, Cond.selects RX5 yX5_laysGiven yX5_laysGiven, Cond.code yX5_laysGiven cX5_laysGiven 6 (some .int), Cond.methodLink RX5 129 yX5_gives, Cond.static yX5_gives, Cond.code yX5_gives cX5_gives 3 (some .boolean), Cond.methodLink RL 53 yX4_type, Cond.instanceMethod yX4_type, Cond.selects RX4 yX4_type yX4_type, Cond.code yX4_type cX4_type 2 (some .int), Cond.fieldLink RX4 102 "BoatSets$RangeText" "length" "I", Cond.fieldLink RX4 105 "BoatSets$RangeText" "characters" "[C", Cond.methodLink RL 57 yX5_type, Cond.instanceMethod yX5_type, Cond.selects RX5 yX5_type yX5_type, Cond.code yX5_type cX5_type 2 (some .int), Cond.fieldLink RX5 136 "BoatSetsModel" "typed" "I", Cond.methodLink RL 58 yX4_clearText, Cond.instanceMethod yX4_clearText, Cond.selects RX4 yX4_clearText yX4_clearText, Cond.code yX4_clearText cX4_clearText 2 (some .int), Cond.methodLink RL 62 yX5_clearText, Cond.instanceMethod yX5_clearText]
def wsL_law_r18 : List Cond := [Cond.selects RX5 yX5_clearText yX5_clearText, Cond.code yX5_clearText cX5_clearText 2 (some .int), Cond.methodLink RL 63 yX4_readRanges, Cond.instanceMethod yX4_readRanges, Cond.selects RX4 yX4_readRanges yX4_readRanges, Cond.code yX4_readRanges cX4_readRanges 6 (some .int), Cond.fieldLink RX4 116 "BoatSets$RangeText" "ranges" "I", Cond.fieldLink RX4 119 "BoatSets$RangeText" "firsts" "[I", Cond.fieldLink RX4 122 "BoatSets$RangeText" "lasts" "[I", Cond.methodLink RX4 109 yX3_read, Cond.instanceMethod yX3_read, Cond.selects RX3 yX3_read yX3_read, Cond.code yX3_read cX3_read 7 (some .int), Cond.fieldLink RX3 22 "BoatSets$RangeText" "ranges" "I", Cond.fieldLink RX3 26 "BoatSets$RangeText" "length" "I", Cond.methodLink RX3 29 yX3_noteRange, Cond.instanceMethod yX3_noteRange, Cond.selects RX3 yX3_noteRange yX3_noteRange, Cond.code yX3_noteRange cX3_noteRange 3 none, Cond.methodLink RX4 112 yX3_hasGoodValues, Cond.instanceMethod yX3_hasGoodValues, Cond.selects RX3 yX3_hasGoodValues yX3_hasGoodValues, Cond.code yX3_hasGoodValues cX3_hasGoodValues 2 (some .boolean), Cond.methodLink RL 66 yX5_readRanges]
def wsL_law_r19 : List Cond := [Cond.instanceMethod yX5_readRanges, Cond.selects RX5 yX5_readRanges yX5_readRanges, Cond.code yX5_readRanges cX5_readRanges 6 (some .int), Cond.fieldLink RX5 145 "BoatSetsModel" "readMany" "I", Cond.methodLink RX5 152 yX5_faultOf, Cond.instanceMethod yX5_faultOf, Cond.selects RX5 yX5_faultOf yX5_faultOf, Cond.code yX5_faultOf cX5_faultOf 4 (some .int), Cond.fieldLink RX5 139 "BoatSetsModel" "at" "I", Cond.methodLink RX5 148 yX5_readsNumber, Cond.instanceMethod yX5_readsNumber, Cond.selects RX5 yX5_readsNumber yX5_readsNumber, Cond.code yX5_readsNumber cX5_readsNumber 3 (some .int), Cond.methodLink RX5 142 yX5_signAt, Cond.instanceMethod yX5_signAt, Cond.selects RX5 yX5_signAt yX5_signAt, Cond.code yX5_signAt cX5_signAt 2 (some .int), Cond.methodLink RL 67 yX4_undo, Cond.instanceMethod yX4_undo, Cond.selects RX4 yX4_undo yX4_undo, Cond.code yX4_undo cX4_undo 1 (some .int), Cond.fieldLink RX4 133 "BoatSets$History" "size" "I", Cond.methodLink RX4 136 yX2_popInto, Cond.instanceMethod yX2_popInto]
def wsL_law_r20 : List Cond := [Cond.selects RX2 yX2_popInto yX2_popInto, Cond.code yX2_popInto cX2_popInto 2 none, Cond.methodLink RL 70 yX5_undo, Cond.instanceMethod yX5_undo, Cond.selects RX5 yX5_undo yX5_undo, Cond.code yX5_undo cX5_undo 1 (some .int), Cond.methodLink RL 71 yX4_keep, Cond.instanceMethod yX4_keep, Cond.selects RX4 yX4_keep yX4_keep, Cond.code yX4_keep cX4_keep 1 (some .int), Cond.methodLink RX4 139 yX1_copyFrom, Cond.methodLink RL 74 yX5_keep, Cond.instanceMethod yX5_keep, Cond.selects RX5 yX5_keep yX5_keep, Cond.code yX5_keep cX5_keep 1 (some .int), Cond.fieldLink RX5 155 "BoatSetsModel" "isKept" "Z", Cond.methodLink RL 75 yX4_restore, Cond.instanceMethod yX4_restore, Cond.selects RX4 yX4_restore yX4_restore, Cond.code yX4_restore cX4_restore 1 (some .int), Cond.methodLink RL 78 yX5_restore, Cond.instanceMethod yX5_restore, Cond.selects RX5 yX5_restore yX5_restore, Cond.code yX5_restore cX5_restore 1 (some .int)]
def wsL_law_r21 : List Cond := [Cond.methodLink RL 79 yX4_has, Cond.instanceMethod yX4_has, Cond.selects RX4 yX4_has yX4_has, Cond.code yX4_has cX4_has 3 (some .int), Cond.methodLink RX4 144 yX0_holds, Cond.methodLink RL 82 yX5_has, Cond.instanceMethod yX5_has, Cond.selects RX5 yX5_has yX5_has, Cond.code yX5_has cX5_has 3 (some .int), Cond.methodLink RL 83 yX4_set, Cond.instanceMethod yX4_set, Cond.selects RX4 yX4_set yX4_set, Cond.code yX4_set cX4_set 4 (some .int), Cond.fieldLink RX4 150 "BoatSets$Fleet" "paid" "I", Cond.methodLink RX4 147 yX0_units, Cond.instanceMethod yX0_units, Cond.selects RX0 yX0_units yX0_units, Cond.code yX0_units cX0_units 3 (some .int), Cond.methodLink RX4 153 yX0_allRuns, Cond.instanceMethod yX0_allRuns, Cond.selects RX0 yX0_allRuns yX0_allRuns, Cond.code yX0_allRuns cX0_allRuns 3 (some .int), Cond.methodLink RX4 156 yX0_numberAt, Cond.instanceMethod yX0_numberAt]
def wsL_law_r22 : List Cond := [Cond.selects RX0 yX0_numberAt yX0_numberAt, Cond.code yX0_numberAt cX0_numberAt 5 (some .int), Cond.methodLink RX0 104 yJ13_bitCount_95d88, Cond.static yJ13_bitCount_95d88, Cond.initialized RJ13, Cond.code yJ13_bitCount_95d88 cJ13_bitCount_95d88 2 (some .int), Cond.constantLong RJ13 314 (6148914691236517205), Cond.constantLong RJ13 316 (3689348814741910323), Cond.constantLong RJ13 318 (1085102592571150095), Cond.methodLink RX0 110 yX0_placeOfBit, Cond.static yX0_placeOfBit, Cond.code yX0_placeOfBit cX0_placeOfBit 6 (some .int), Cond.methodLink RX4 159 yX0_bestUnits, Cond.instanceMethod yX0_bestUnits, Cond.selects RX0 yX0_bestUnits yX0_bestUnits, Cond.code yX0_bestUnits cX0_bestUnits 3 (some .int), Cond.methodLink RL 86 yX5_set, Cond.instanceMethod yX5_set, Cond.selects RX5 yX5_set yX5_set, Cond.code yX5_set cX5_set 3 (some .int), Cond.methodLink RX5 159 yX5_rankOf, Cond.instanceMethod yX5_rankOf, Cond.selects RX5 yX5_rankOf yX5_rankOf, Cond.code yX5_rankOf cX5_rankOf 5 (some .int)]
def wsL_law_r23 : List Cond := [Cond.methodLink RX5 162 yX5_sumOf, Cond.instanceMethod yX5_sumOf, Cond.selects RX5 yX5_sumOf yX5_sumOf, Cond.code yX5_sumOf cX5_sumOf 7 (some .int), Cond.methodLink RX5 165 yX5_firstFrom, Cond.instanceMethod yX5_firstFrom, Cond.selects RX5 yX5_firstFrom yX5_firstFrom, Cond.code yX5_firstFrom cX5_firstFrom 5 (some .int), Cond.methodLink RL 87 yX4_boat, Cond.instanceMethod yX4_boat, Cond.selects RX4 yX4_boat yX4_boat, Cond.code yX4_boat cX4_boat 5 (some .int), Cond.fieldLink RX4 162 "BoatSets$Fleet" "runs" "[I", Cond.methodLink RX4 165 yX0_unitsAs, Cond.methodLink RX4 168 yX0_bestKind, Cond.methodLink RX4 171 yX0_tollToBest, Cond.instanceMethod yX0_tollToBest, Cond.selects RX0 yX0_tollToBest yX0_tollToBest, Cond.code yX0_tollToBest cX0_tollToBest 3 (some .int), Cond.methodLink RL 90 yX5_boat, Cond.instanceMethod yX5_boat, Cond.selects RX5 yX5_boat yX5_boat, Cond.code yX5_boat cX5_boat 4 (some .int), Cond.methodLink RL 91 yX4_rank]
def wsL_law_r24 : List Cond := [Cond.instanceMethod yX4_rank, Cond.selects RX4 yX4_rank yX4_rank, Cond.code yX4_rank cX4_rank 3 (some .int), Cond.methodLink RX4 174 yX0_numbersBelow, Cond.instanceMethod yX0_numbersBelow, Cond.selects RX0 yX0_numbersBelow yX0_numbersBelow, Cond.code yX0_numbersBelow cX0_numbersBelow 6 (some .int), Cond.methodLink RL 94 yX5_rank, Cond.instanceMethod yX5_rank, Cond.selects RX5 yX5_rank yX5_rank, Cond.code yX5_rank cX5_rank 3 (some .int), Cond.methodLink RL 95 yX4_at, Cond.instanceMethod yX4_at, Cond.selects RX4 yX4_at yX4_at, Cond.code yX4_at cX4_at 3 (some .int), Cond.methodLink RL 98 yX5_at, Cond.instanceMethod yX5_at, Cond.selects RX5 yX5_at yX5_at, Cond.code yX5_at cX5_at 5 (some .int), Cond.methodLink RL 99 yX4_next, Cond.instanceMethod yX4_next, Cond.selects RX4 yX4_next yX4_next, Cond.code yX4_next cX4_next 3 (some .int), Cond.methodLink RX4 177 yX0_firstFrom]
def wsL_law_r25 : List Cond := [Cond.instanceMethod yX0_firstFrom, Cond.selects RX0 yX0_firstFrom yX0_firstFrom, Cond.code yX0_firstFrom cX0_firstFrom 2 (some .int), Cond.methodLink RX0 114 yX0_numbersBelow, Cond.methodLink RX0 117 yX0_numberAt, Cond.methodLink RL 102 yX5_next, Cond.instanceMethod yX5_next, Cond.selects RX5 yX5_next yX5_next, Cond.code yX5_next cX5_next 3 (some .int), Cond.methodLink RL 103 yX4_nearest, Cond.instanceMethod yX4_nearest, Cond.selects RX4 yX4_nearest yX4_nearest, Cond.code yX4_nearest cX4_nearest 6 (some .int), Cond.methodLink RL 106 yX5_nearest, Cond.instanceMethod yX5_nearest, Cond.selects RX5 yX5_nearest yX5_nearest, Cond.code yX5_nearest cX5_nearest 5 (some .int), Cond.methodLink RL 107 yX4_gap, Cond.instanceMethod yX4_gap, Cond.selects RX4 yX4_gap yX4_gap, Cond.code yX4_gap cX4_gap 3 (some .int), Cond.methodLink RX4 180 yX0_firstGap, Cond.instanceMethod yX0_firstGap, Cond.selects RX0 yX0_firstGap yX0_firstGap]
def wsL_law_r26 : List Cond := [Cond.code yX0_firstGap cX0_firstGap 4 (some .int), Cond.methodLink RL 110 yX5_gap, Cond.instanceMethod yX5_gap, Cond.selects RX5 yX5_gap yX5_gap, Cond.code yX5_gap cX5_gap 5 (some .int), Cond.methodLink RL 111 yX4_sizeOf, Cond.instanceMethod yX4_sizeOf, Cond.selects RX4 yX4_sizeOf yX4_sizeOf, Cond.code yX4_sizeOf cX4_sizeOf 6 (some .int), Cond.fieldLink RX4 183 "BoatSets$Fleet" "words" "[J", Cond.methodLink RX4 187 yX4_join, Cond.methodLink RX4 191 yJ13_bitCount_95d88, Cond.methodLink RL 114 yX5_sizeOf, Cond.instanceMethod yX5_sizeOf, Cond.selects RX5 yX5_sizeOf yX5_sizeOf, Cond.code yX5_sizeOf cX5_sizeOf 4 (some .int), Cond.methodLink RL 115 yX4_ofAll, Cond.instanceMethod yX4_ofAll, Cond.selects RX4 yX4_ofAll yX4_ofAll, Cond.code yX4_ofAll cX4_ofAll 2 (some .int), Cond.methodLink RX4 197 yX1_numberOfAll, Cond.instanceMethod yX1_numberOfAll, Cond.selects RX1 yX1_numberOfAll yX1_numberOfAll, Cond.code yX1_numberOfAll cX1_numberOfAll 7 (some .int)]
def wsL_law_r27 : List Cond := [Cond.methodLink RX1 48 yX1_heldByAny, Cond.instanceMethod yX1_heldByAny, Cond.selects RX1 yX1_heldByAny yX1_heldByAny, Cond.code yX1_heldByAny cX1_heldByAny 5 (some .long), Cond.fieldLink RX1 58 "BoatSets$Fleet" "words" "[J", Cond.methodLink RX1 66 yX1_holders, Cond.instanceMethod yX1_holders, Cond.selects RX1 yX1_holders yX1_holders, Cond.code yX1_holders cX1_holders 4 (some .int), Cond.methodLink RX1 62 yX0_holds, Cond.methodLink RL 118 yX5_ofAll, Cond.instanceMethod yX5_ofAll, Cond.selects RX5 yX5_ofAll yX5_ofAll, Cond.code yX5_ofAll cX5_ofAll 5 (some .int), Cond.methodLink RX5 168 yX5_setsWith, Cond.instanceMethod yX5_setsWith, Cond.selects RX5 yX5_setsWith yX5_setsWith, Cond.code yX5_setsWith cX5_setsWith 4 (some .int), Cond.methodLink RL 119 yX4_most, Cond.instanceMethod yX4_most, Cond.selects RX4 yX4_most yX4_most, Cond.code yX4_most cX4_most 1 (some .int), Cond.methodLink RX4 200 yX1_mostHeld, Cond.instanceMethod yX1_mostHeld]
def wsL_law_r28 : List Cond := [Cond.selects RX1 yX1_mostHeld yX1_mostHeld, Cond.code yX1_mostHeld cX1_mostHeld 8 (some .int), Cond.methodLink RL 122 yX5_most, Cond.instanceMethod yX5_most, Cond.selects RX5 yX5_most yX5_most, Cond.code yX5_most cX5_most 5 (some .int), Cond.methodLink RL 123 yX4_tollToDock, Cond.instanceMethod yX4_tollToDock, Cond.selects RX4 yX4_tollToDock yX4_tollToDock, Cond.code yX4_tollToDock cX4_tollToDock 2 (some .int), Cond.methodLink RL 126 yX5_tollToDock, Cond.instanceMethod yX5_tollToDock, Cond.selects RX5 yX5_tollToDock yX5_tollToDock, Cond.code yX5_tollToDock cX5_tollToDock 3 (some .int), Cond.methodLink RL 127 yX4_count, Cond.instanceMethod yX4_count, Cond.selects RX4 yX4_count yX4_count, Cond.code yX4_count cX4_count 2 (some .int), Cond.methodLink RX4 203 yX1_setsAtSea, Cond.instanceMethod yX1_setsAtSea, Cond.selects RX1 yX1_setsAtSea yX1_setsAtSea, Cond.code yX1_setsAtSea cX1_setsAtSea 3 (some .int), Cond.fieldLink RX1 30 "BoatSets$Fleet" "atSea" "Z", Cond.methodLink RX4 206 yX1_boatsOfKind]
def wsL_law_r29 : List Cond := [Cond.instanceMethod yX1_boatsOfKind, Cond.selects RX1 yX1_boatsOfKind yX1_boatsOfKind, Cond.code yX1_boatsOfKind cX1_boatsOfKind 4 (some .int), Cond.methodLink RX1 34 yX0_boatsOfKind, Cond.methodLink RX4 209 yX1_units, Cond.instanceMethod yX1_units, Cond.selects RX1 yX1_units yX1_units, Cond.code yX1_units cX1_units 3 (some .int), Cond.methodLink RX1 38 yX0_units, Cond.methodLink RX4 210 yX1_numbers, Cond.instanceMethod yX1_numbers, Cond.selects RX1 yX1_numbers yX1_numbers, Cond.code yX1_numbers cX1_numbers 3 (some .int), Cond.methodLink RX1 42 yX0_numbers, Cond.methodLink RX4 211 yX1_differentNumbers, Cond.instanceMethod yX1_differentNumbers, Cond.selects RX1 yX1_differentNumbers yX1_differentNumbers, Cond.code yX1_differentNumbers cX1_differentNumbers 3 (some .int), Cond.methodLink RX1 52 yJ13_bitCount_95d88, Cond.methodLink RX4 214 yX1_tollsPaid, Cond.instanceMethod yX1_tollsPaid, Cond.selects RX1 yX1_tollsPaid yX1_tollsPaid, Cond.code yX1_tollsPaid cX1_tollsPaid 3 (some .int), Cond.fieldLink RX1 45 "BoatSets$Fleet" "paid" "I"]
def wsL_law_r30 : List Cond := [Cond.methodLink RL 130 yX5_count, Cond.instanceMethod yX5_count, Cond.selects RX5 yX5_count yX5_count, Cond.code yX5_count cX5_count 2 (some .int), Cond.methodLink RX5 174 yX5_overAll, Cond.instanceMethod yX5_overAll, Cond.selects RX5 yX5_overAll yX5_overAll, Cond.code yX5_overAll cX5_overAll 5 (some .int), Cond.methodLink RX5 171 yX5_set, Cond.methodLink RX5 177 yX5_different, Cond.instanceMethod yX5_different, Cond.selects RX5 yX5_different yX5_different, Cond.code yX5_different cX5_different 3 (some .int)]
def wsL_law : List Cond := (wsL_law_r1 ++ (wsL_law_r2 ++ (wsL_law_r3 ++ (wsL_law_r4 ++ (wsL_law_r5 ++ (wsL_law_r6 ++ (wsL_law_r7 ++ (wsL_law_r8 ++ (wsL_law_r9 ++ (wsL_law_r10 ++ (wsL_law_r11 ++ (wsL_law_r12 ++ (wsL_law_r13 ++ (wsL_law_r14 ++ (wsL_law_r15 ++ (wsL_law_r16 ++ (wsL_law_r17 ++ (wsL_law_r18 ++ (wsL_law_r19 ++ (wsL_law_r20 ++ (wsL_law_r21 ++ (wsL_law_r22 ++ (wsL_law_r23 ++ (wsL_law_r24 ++ (wsL_law_r25 ++ (wsL_law_r26 ++ (wsL_law_r27 ++ (wsL_law_r28 ++ (wsL_law_r29 ++ wsL_law_r30))))))))))))))))))))))))))))) ++ wsX40 ++ wsX50 ++ wsX10 ++ wsX20 ++ wsX30 ++ wsX00 ++ ([] : List Cond)
abbrev vwCl : List vw_C := [(RX0, TX0, 7), (RX1, TX1, 2), (RX2, TX2, 2), (RX3, TX3, 5), (RX4, TX4, 6), (RX5, TX5, 13)]
end
section
theorem dX0_init_0 : decode cX0_init 0 = .ok (.aload_n 0, 1) := by decide +kernel
theorem dX0_init_1 : decode cX0_init 1 = .ok (.invokespecial 3, 3) := by decide +kernel
theorem dX0_init_4 : decode cX0_init 4 = .ok (.aload_n 0, 1) := by decide +kernel
theorem dX0_init_5 : decode cX0_init 5 = .ok (.bipush 32, 2) := by decide +kernel
theorem dX0_init_7 : decode cX0_init 7 = .ok (.newarray .long, 2) := by decide +kernel
theorem dX0_init_9 : decode cX0_init 9 = .ok (.putfield 9, 3) := by decide +kernel
theorem dX0_init_12 : decode cX0_init 12 = .ok (.aload_n 0, 1) := by decide +kernel
theorem dX0_init_13 : decode cX0_init 13 = .ok (.bipush 8, 2) := by decide +kernel
theorem dX0_init_15 : decode cX0_init 15 = .ok (.newarray .int, 2) := by decide +kernel
theorem dX0_init_17 : decode cX0_init 17 = .ok (.putfield 15, 3) := by decide +kernel
theorem dX0_init_20 : decode cX0_init 20 = .ok (.aload_n 0, 1) := by decide +kernel
theorem dX0_init_21 : decode cX0_init 21 = .ok (.bipush 8, 2) := by decide +kernel
theorem dX0_init_23 : decode cX0_init 23 = .ok (.newarray .int, 2) := by decide +kernel
theorem dX0_init_25 : decode cX0_init 25 = .ok (.putfield 19, 3) := by decide +kernel
theorem dX0_init_28 : decode cX0_init 28 = .ok (.aload_n 0, 1) := by decide +kernel
theorem dX0_init_29 : decode cX0_init 29 = .ok (.bipush 8, 2) := by decide +kernel
theorem dX0_init_31 : decode cX0_init 31 = .ok (.newarray .int, 2) := by decide +kernel
theorem dX0_init_33 : decode cX0_init 33 = .ok (.putfield 22, 3) := by decide +kernel
theorem dX0_init_36 : decode cX0_init 36 = .ok (.return_, 1) := by decide +kernel
set_option maxRecDepth 20000 in
theorem ggX0_begin_X0_clearNumbers : GoodIn wsX0_begin wsX0_clearNumbers := goodIn_r _ [8, 9, 10, 11, 12, 13, 14, 15, 16, 17, 18, 19, 20, 21, 22, 23, 24, 25, 26] (by decide +kernel) (by decide +kernel)
set_option maxRecDepth 20000 in
theorem gX0_begin_X0_clearNumbers : GoodIn wsX0_begin (wsV RX0 25 RX0 yX0_clearNumbers wsX0_clearNumbers) := goodIn_app (goodIn_of _ (by decide +kernel)) ggX0_begin_X0_clearNumbers
theorem dX0_begin_0 : decode cX0_begin 0 = .ok (.aload_n 0, 1) := by decide +kernel
theorem dX0_begin_1 : decode cX0_begin 1 = .ok (.invokevirtual 25, 3) := by decide +kernel
theorem dX0_begin_4 : decode cX0_begin 4 = .ok (.aload_n 0, 1) := by decide +kernel
theorem dX0_begin_5 : decode cX0_begin 5 = .ok (.iload_n 1, 1) := by decide +kernel
theorem dX0_begin_6 : decode cX0_begin 6 = .ok (.putfield 28, 3) := by decide +kernel
theorem dX0_begin_9 : decode cX0_begin 9 = .ok (.aload_n 0, 1) := by decide +kernel
theorem dX0_begin_10 : decode cX0_begin 10 = .ok (.iconst 0, 1) := by decide +kernel
theorem dX0_begin_11 : decode cX0_begin 11 = .ok (.putfield 32, 3) := by decide +kernel
theorem dX0_begin_14 : decode cX0_begin 14 = .ok (.aload_n 0, 1) := by decide +kernel
theorem dX0_begin_15 : decode cX0_begin 15 = .ok (.iconst 0, 1) := by decide +kernel
theorem dX0_begin_16 : decode cX0_begin 16 = .ok (.putfield 35, 3) := by decide +kernel
theorem dX0_begin_19 : decode cX0_begin 19 = .ok (.return_, 1) := by decide +kernel
set_option maxRecDepth 20000 in
theorem ggX0_clearNumbers_J7_fill_d0a16 : GoodIn wsX0_clearNumbers wsJ7_fill_d0a16 := goodIn_r _ [8] (by decide +kernel) (by decide +kernel)
set_option maxRecDepth 20000 in
theorem gX0_clearNumbers_J7_fill_d0a16 : GoodIn wsX0_clearNumbers (va_wsS RX0 39 yJ7_fill_d0a16 wsJ7_fill_d0a16) := goodIn_app (goodIn_of _ (by decide +kernel)) ggX0_clearNumbers_J7_fill_d0a16
set_option maxRecDepth 20000 in
theorem ggX0_clearNumbers_J7_fill_53178 : GoodIn wsX0_clearNumbers wsJ7_fill_53178 := goodIn_r _ [11] (by decide +kernel) (by decide +kernel)
set_option maxRecDepth 20000 in
theorem gX0_clearNumbers_J7_fill_53178 : GoodIn wsX0_clearNumbers (va_wsS RX0 45 yJ7_fill_53178 wsJ7_fill_53178) := goodIn_app (goodIn_of _ (by decide +kernel)) ggX0_clearNumbers_J7_fill_53178
theorem dX0_clearNumbers_0 : decode cX0_clearNumbers 0 = .ok (.aload_n 0, 1) := by decide +kernel
theorem dX0_clearNumbers_1 : decode cX0_clearNumbers 1 = .ok (.getfield 9, 3) := by decide +kernel
theorem dX0_clearNumbers_4 : decode cX0_clearNumbers 4 = .ok (.lconst 0, 1) := by decide +kernel
theorem dX0_clearNumbers_5 : decode cX0_clearNumbers 5 = .ok (.invokestatic 39, 3) := by decide +kernel
theorem dX0_clearNumbers_8 : decode cX0_clearNumbers 8 = .ok (.aload_n 0, 1) := by decide +kernel
theorem dX0_clearNumbers_9 : decode cX0_clearNumbers 9 = .ok (.getfield 15, 3) := by decide +kernel
theorem dX0_clearNumbers_12 : decode cX0_clearNumbers 12 = .ok (.iconst 0, 1) := by decide +kernel
theorem dX0_clearNumbers_13 : decode cX0_clearNumbers 13 = .ok (.invokestatic 45, 3) := by decide +kernel
theorem dX0_clearNumbers_16 : decode cX0_clearNumbers 16 = .ok (.aload_n 0, 1) := by decide +kernel
theorem dX0_clearNumbers_17 : decode cX0_clearNumbers 17 = .ok (.getfield 19, 3) := by decide +kernel
theorem dX0_clearNumbers_20 : decode cX0_clearNumbers 20 = .ok (.iconst 0, 1) := by decide +kernel
theorem dX0_clearNumbers_21 : decode cX0_clearNumbers 21 = .ok (.invokestatic 45, 3) := by decide +kernel
theorem dX0_clearNumbers_24 : decode cX0_clearNumbers 24 = .ok (.aload_n 0, 1) := by decide +kernel
theorem dX0_clearNumbers_25 : decode cX0_clearNumbers 25 = .ok (.getfield 22, 3) := by decide +kernel
theorem dX0_clearNumbers_28 : decode cX0_clearNumbers 28 = .ok (.iconst 0, 1) := by decide +kernel
theorem dX0_clearNumbers_29 : decode cX0_clearNumbers 29 = .ok (.invokestatic 45, 3) := by decide +kernel
theorem dX0_clearNumbers_32 : decode cX0_clearNumbers 32 = .ok (.return_, 1) := by decide +kernel
theorem dX0_copyFrom_0 : decode cX0_copyFrom 0 = .ok (.aload_n 1, 1) := by decide +kernel
theorem dX0_copyFrom_1 : decode cX0_copyFrom 1 = .ok (.getfield 9, 3) := by decide +kernel
theorem dX0_copyFrom_4 : decode cX0_copyFrom 4 = .ok (.iconst 0, 1) := by decide +kernel
theorem dX0_copyFrom_5 : decode cX0_copyFrom 5 = .ok (.aload_n 0, 1) := by decide +kernel
theorem dX0_copyFrom_6 : decode cX0_copyFrom 6 = .ok (.getfield 9, 3) := by decide +kernel
theorem dX0_copyFrom_9 : decode cX0_copyFrom 9 = .ok (.iconst 0, 1) := by decide +kernel
theorem dX0_copyFrom_10 : decode cX0_copyFrom 10 = .ok (.bipush 32, 2) := by decide +kernel
theorem dX0_copyFrom_12 : decode cX0_copyFrom 12 = .ok (.invokestatic 48, 3) := by decide +kernel
theorem dX0_copyFrom_15 : decode cX0_copyFrom 15 = .ok (.aload_n 1, 1) := by decide +kernel
theorem dX0_copyFrom_16 : decode cX0_copyFrom 16 = .ok (.getfield 15, 3) := by decide +kernel
theorem dX0_copyFrom_19 : decode cX0_copyFrom 19 = .ok (.iconst 0, 1) := by decide +kernel
theorem dX0_copyFrom_20 : decode cX0_copyFrom 20 = .ok (.aload_n 0, 1) := by decide +kernel
theorem dX0_copyFrom_21 : decode cX0_copyFrom 21 = .ok (.getfield 15, 3) := by decide +kernel
theorem dX0_copyFrom_24 : decode cX0_copyFrom 24 = .ok (.iconst 0, 1) := by decide +kernel
theorem dX0_copyFrom_25 : decode cX0_copyFrom 25 = .ok (.bipush 8, 2) := by decide +kernel
theorem dX0_copyFrom_27 : decode cX0_copyFrom 27 = .ok (.invokestatic 48, 3) := by decide +kernel
theorem dX0_copyFrom_30 : decode cX0_copyFrom 30 = .ok (.aload_n 1, 1) := by decide +kernel
theorem dX0_copyFrom_31 : decode cX0_copyFrom 31 = .ok (.getfield 19, 3) := by decide +kernel
theorem dX0_copyFrom_34 : decode cX0_copyFrom 34 = .ok (.iconst 0, 1) := by decide +kernel
theorem dX0_copyFrom_35 : decode cX0_copyFrom 35 = .ok (.aload_n 0, 1) := by decide +kernel
theorem dX0_copyFrom_36 : decode cX0_copyFrom 36 = .ok (.getfield 19, 3) := by decide +kernel
theorem dX0_copyFrom_39 : decode cX0_copyFrom 39 = .ok (.iconst 0, 1) := by decide +kernel
theorem dX0_copyFrom_40 : decode cX0_copyFrom 40 = .ok (.bipush 8, 2) := by decide +kernel
theorem dX0_copyFrom_42 : decode cX0_copyFrom 42 = .ok (.invokestatic 48, 3) := by decide +kernel
theorem dX0_copyFrom_45 : decode cX0_copyFrom 45 = .ok (.aload_n 1, 1) := by decide +kernel
theorem dX0_copyFrom_46 : decode cX0_copyFrom 46 = .ok (.getfield 22, 3) := by decide +kernel
theorem dX0_copyFrom_49 : decode cX0_copyFrom 49 = .ok (.iconst 0, 1) := by decide +kernel
theorem dX0_copyFrom_50 : decode cX0_copyFrom 50 = .ok (.aload_n 0, 1) := by decide +kernel
theorem dX0_copyFrom_51 : decode cX0_copyFrom 51 = .ok (.getfield 22, 3) := by decide +kernel
theorem dX0_copyFrom_54 : decode cX0_copyFrom 54 = .ok (.iconst 0, 1) := by decide +kernel
theorem dX0_copyFrom_55 : decode cX0_copyFrom 55 = .ok (.bipush 8, 2) := by decide +kernel
theorem dX0_copyFrom_57 : decode cX0_copyFrom 57 = .ok (.invokestatic 48, 3) := by decide +kernel
theorem dX0_copyFrom_60 : decode cX0_copyFrom 60 = .ok (.aload_n 0, 1) := by decide +kernel
theorem dX0_copyFrom_61 : decode cX0_copyFrom 61 = .ok (.aload_n 1, 1) := by decide +kernel
theorem dX0_copyFrom_62 : decode cX0_copyFrom 62 = .ok (.getfield 28, 3) := by decide +kernel
theorem dX0_copyFrom_65 : decode cX0_copyFrom 65 = .ok (.putfield 28, 3) := by decide +kernel
theorem dX0_copyFrom_68 : decode cX0_copyFrom 68 = .ok (.aload_n 0, 1) := by decide +kernel
theorem dX0_copyFrom_69 : decode cX0_copyFrom 69 = .ok (.aload_n 1, 1) := by decide +kernel
theorem dX0_copyFrom_70 : decode cX0_copyFrom 70 = .ok (.getfield 32, 3) := by decide +kernel
theorem dX0_copyFrom_73 : decode cX0_copyFrom 73 = .ok (.putfield 32, 3) := by decide +kernel
theorem dX0_copyFrom_76 : decode cX0_copyFrom 76 = .ok (.aload_n 0, 1) := by decide +kernel
theorem dX0_copyFrom_77 : decode cX0_copyFrom 77 = .ok (.aload_n 1, 1) := by decide +kernel
theorem dX0_copyFrom_78 : decode cX0_copyFrom 78 = .ok (.getfield 35, 3) := by decide +kernel
theorem dX0_copyFrom_81 : decode cX0_copyFrom 81 = .ok (.putfield 35, 3) := by decide +kernel
theorem dX0_copyFrom_84 : decode cX0_copyFrom 84 = .ok (.return_, 1) := by decide +kernel
set_option maxRecDepth 20000 in
theorem ggX0_holds_X4_isNumber : GoodIn wsX0_holds wsX4_isNumber := goodIn_r _ [4] (by decide +kernel) (by decide +kernel)
set_option maxRecDepth 20000 in
theorem gX0_holds_X4_isNumber_n54 : GoodIn wsX0_holds (wsX4_isNumber) := ggX0_holds_X4_isNumber
theorem dX0_holds_0 : decode cX0_holds 0 = .ok (.iload_n 1, 1) := by decide +kernel
theorem dX0_holds_1 : decode cX0_holds 1 = .ok (.invokestatic 54, 3) := by decide +kernel
theorem dX0_holds_4 : decode cX0_holds 4 = .ok (.ifCond .ne 5, 3) := by decide +kernel
theorem dX0_holds_7 : decode cX0_holds 7 = .ok (.iconst 0, 1) := by decide +kernel
theorem dX0_holds_8 : decode cX0_holds 8 = .ok (.ireturn, 1) := by decide +kernel
theorem dX0_holds_9 : decode cX0_holds 9 = .ok (.aload_n 0, 1) := by decide +kernel
theorem dX0_holds_10 : decode cX0_holds 10 = .ok (.getfield 9, 3) := by decide +kernel
theorem dX0_holds_13 : decode cX0_holds 13 = .ok (.iload_n 1, 1) := by decide +kernel
theorem dX0_holds_14 : decode cX0_holds 14 = .ok (.bipush 64, 2) := by decide +kernel
theorem dX0_holds_16 : decode cX0_holds 16 = .ok (.idiv, 1) := by decide +kernel
theorem dX0_holds_17 : decode cX0_holds 17 = .ok (.laload, 1) := by decide +kernel
theorem dX0_holds_18 : decode cX0_holds 18 = .ok (.iload_n 1, 1) := by decide +kernel
theorem dX0_holds_19 : decode cX0_holds 19 = .ok (.bipush 64, 2) := by decide +kernel
theorem dX0_holds_21 : decode cX0_holds 21 = .ok (.irem, 1) := by decide +kernel
theorem dX0_holds_22 : decode cX0_holds 22 = .ok (.lushr, 1) := by decide +kernel
theorem dX0_holds_23 : decode cX0_holds 23 = .ok (.lconst 1, 1) := by decide +kernel
theorem dX0_holds_24 : decode cX0_holds 24 = .ok (.land, 1) := by decide +kernel
theorem dX0_holds_25 : decode cX0_holds 25 = .ok (.lconst 0, 1) := by decide +kernel
theorem dX0_holds_26 : decode cX0_holds 26 = .ok (.lcmp, 1) := by decide +kernel
theorem dX0_holds_27 : decode cX0_holds 27 = .ok (.ifCond .eq 7, 3) := by decide +kernel
theorem dX0_holds_30 : decode cX0_holds 30 = .ok (.iconst 1, 1) := by decide +kernel
theorem dX0_holds_31 : decode cX0_holds 31 = .ok (.goto 4, 3) := by decide +kernel
theorem dX0_holds_34 : decode cX0_holds 34 = .ok (.iconst 0, 1) := by decide +kernel
theorem dX0_holds_35 : decode cX0_holds 35 = .ok (.ireturn, 1) := by decide +kernel
set_option maxRecDepth 20000 in
theorem ggX0_flip_X4_isNumber : GoodIn wsX0_flip wsX4_isNumber := goodIn_r _ [6] (by decide +kernel) (by decide +kernel)
set_option maxRecDepth 20000 in
theorem gX0_flip_X4_isNumber_n54 : GoodIn wsX0_flip (wsX4_isNumber) := ggX0_flip_X4_isNumber
set_option maxRecDepth 20000 in
theorem ggX0_flip_X0_holds : GoodIn wsX0_flip wsX0_holds := goodIn_r _ [11, 1, 4, 5, 6, 16, 17, 18, 19, 20, 21, 22] (by decide +kernel) (by decide +kernel)
set_option maxRecDepth 20000 in
theorem gX0_flip_X0_holds : GoodIn wsX0_flip (wsV RX0 58 RX0 yX0_holds wsX0_holds) := goodIn_app (goodIn_of _ (by decide +kernel)) ggX0_flip_X0_holds
set_option maxRecDepth 20000 in
theorem ggX0_flip_X0_neighboursInBay : GoodIn wsX0_flip wsX0_neighboursInBay := goodIn_r _ [15, 7, 8, 9, 10, 11, 1, 4, 5, 6, 16, 17, 18, 19, 20, 21, 22] (by decide +kernel) (by decide +kernel)
set_option maxRecDepth 20000 in
theorem gX0_flip_X0_neighboursInBay : GoodIn wsX0_flip (wsV RX0 61 RX0 yX0_neighboursInBay wsX0_neighboursInBay) := goodIn_app (goodIn_of _ (by decide +kernel)) ggX0_flip_X0_neighboursInBay
theorem dX0_flip_0 : decode cX0_flip 0 = .ok (.iload_n 1, 1) := by decide +kernel
theorem dX0_flip_1 : decode cX0_flip 1 = .ok (.invokestatic 54, 3) := by decide +kernel
theorem dX0_flip_4 : decode cX0_flip 4 = .ok (.ifCond .ne 4, 3) := by decide +kernel
theorem dX0_flip_7 : decode cX0_flip 7 = .ok (.return_, 1) := by decide +kernel
theorem dX0_flip_8 : decode cX0_flip 8 = .ok (.iload_n 1, 1) := by decide +kernel
theorem dX0_flip_9 : decode cX0_flip 9 = .ok (.sipush 256, 3) := by decide +kernel
theorem dX0_flip_12 : decode cX0_flip 12 = .ok (.idiv, 1) := by decide +kernel
theorem dX0_flip_13 : decode cX0_flip 13 = .ok (.istore_n 2, 1) := by decide +kernel
theorem dX0_flip_14 : decode cX0_flip 14 = .ok (.aload_n 0, 1) := by decide +kernel
theorem dX0_flip_15 : decode cX0_flip 15 = .ok (.iload_n 1, 1) := by decide +kernel
theorem dX0_flip_16 : decode cX0_flip 16 = .ok (.invokevirtual 58, 3) := by decide +kernel
theorem dX0_flip_19 : decode cX0_flip 19 = .ok (.ifCond .eq 7, 3) := by decide +kernel
theorem dX0_flip_22 : decode cX0_flip 22 = .ok (.iconst (-1), 1) := by decide +kernel
theorem dX0_flip_23 : decode cX0_flip 23 = .ok (.goto 4, 3) := by decide +kernel
theorem dX0_flip_26 : decode cX0_flip 26 = .ok (.iconst 1, 1) := by decide +kernel
theorem dX0_flip_27 : decode cX0_flip 27 = .ok (.istore_n 3, 1) := by decide +kernel
theorem dX0_flip_28 : decode cX0_flip 28 = .ok (.aload_n 0, 1) := by decide +kernel
theorem dX0_flip_29 : decode cX0_flip 29 = .ok (.getfield 9, 3) := by decide +kernel
theorem dX0_flip_32 : decode cX0_flip 32 = .ok (.iload_n 1, 1) := by decide +kernel
theorem dX0_flip_33 : decode cX0_flip 33 = .ok (.bipush 64, 2) := by decide +kernel
theorem dX0_flip_35 : decode cX0_flip 35 = .ok (.idiv, 1) := by decide +kernel
theorem dX0_flip_36 : decode cX0_flip 36 = .ok (.dup2, 1) := by decide +kernel
theorem dX0_flip_37 : decode cX0_flip 37 = .ok (.laload, 1) := by decide +kernel
theorem dX0_flip_38 : decode cX0_flip 38 = .ok (.lconst 1, 1) := by decide +kernel
theorem dX0_flip_39 : decode cX0_flip 39 = .ok (.iload_n 1, 1) := by decide +kernel
theorem dX0_flip_40 : decode cX0_flip 40 = .ok (.bipush 64, 2) := by decide +kernel
theorem dX0_flip_42 : decode cX0_flip 42 = .ok (.irem, 1) := by decide +kernel
theorem dX0_flip_43 : decode cX0_flip 43 = .ok (.lshl, 1) := by decide +kernel
theorem dX0_flip_44 : decode cX0_flip 44 = .ok (.lxor, 1) := by decide +kernel
theorem dX0_flip_45 : decode cX0_flip 45 = .ok (.lastore, 1) := by decide +kernel
theorem dX0_flip_46 : decode cX0_flip 46 = .ok (.aload_n 0, 1) := by decide +kernel
theorem dX0_flip_47 : decode cX0_flip 47 = .ok (.getfield 19, 3) := by decide +kernel
theorem dX0_flip_50 : decode cX0_flip 50 = .ok (.iload_n 2, 1) := by decide +kernel
theorem dX0_flip_51 : decode cX0_flip 51 = .ok (.dup2, 1) := by decide +kernel
theorem dX0_flip_52 : decode cX0_flip 52 = .ok (.iaload, 1) := by decide +kernel
theorem dX0_flip_53 : decode cX0_flip 53 = .ok (.iload_n 3, 1) := by decide +kernel
theorem dX0_flip_54 : decode cX0_flip 54 = .ok (.iadd, 1) := by decide +kernel
theorem dX0_flip_55 : decode cX0_flip 55 = .ok (.iastore, 1) := by decide +kernel
theorem dX0_flip_56 : decode cX0_flip 56 = .ok (.aload_n 0, 1) := by decide +kernel
theorem dX0_flip_57 : decode cX0_flip 57 = .ok (.getfield 22, 3) := by decide +kernel
theorem dX0_flip_60 : decode cX0_flip 60 = .ok (.iload_n 2, 1) := by decide +kernel
theorem dX0_flip_61 : decode cX0_flip 61 = .ok (.dup2, 1) := by decide +kernel
theorem dX0_flip_62 : decode cX0_flip 62 = .ok (.iaload, 1) := by decide +kernel
theorem dX0_flip_63 : decode cX0_flip 63 = .ok (.iload_n 3, 1) := by decide +kernel
theorem dX0_flip_64 : decode cX0_flip 64 = .ok (.iconst 1, 1) := by decide +kernel
theorem dX0_flip_65 : decode cX0_flip 65 = .ok (.aload_n 0, 1) := by decide +kernel
theorem dX0_flip_66 : decode cX0_flip 66 = .ok (.iload_n 1, 1) := by decide +kernel
theorem dX0_flip_67 : decode cX0_flip 67 = .ok (.invokevirtual 61, 3) := by decide +kernel
theorem dX0_flip_70 : decode cX0_flip 70 = .ok (.isub, 1) := by decide +kernel
theorem dX0_flip_71 : decode cX0_flip 71 = .ok (.imul, 1) := by decide +kernel
theorem dX0_flip_72 : decode cX0_flip 72 = .ok (.iadd, 1) := by decide +kernel
theorem dX0_flip_73 : decode cX0_flip 73 = .ok (.iastore, 1) := by decide +kernel
theorem dX0_flip_74 : decode cX0_flip 74 = .ok (.return_, 1) := by decide +kernel
set_option maxRecDepth 20000 in
theorem ggX0_neighboursInBay_X0_holds : GoodIn wsX0_neighboursInBay wsX0_holds := goodIn_r _ [5, 6, 7, 8, 9, 10, 11, 12, 13, 14, 15, 16] (by decide +kernel) (by decide +kernel)
set_option maxRecDepth 20000 in
theorem gX0_neighboursInBay_X0_holds : GoodIn wsX0_neighboursInBay (wsV RX0 58 RX0 yX0_holds wsX0_holds) := goodIn_app (goodIn_of _ (by decide +kernel)) ggX0_neighboursInBay_X0_holds
theorem dX0_neighboursInBay_0 : decode cX0_neighboursInBay 0 = .ok (.iload_n 1, 1) := by decide +kernel
theorem dX0_neighboursInBay_1 : decode cX0_neighboursInBay 1 = .ok (.sipush 256, 3) := by decide +kernel
theorem dX0_neighboursInBay_4 : decode cX0_neighboursInBay 4 = .ok (.irem, 1) := by decide +kernel
theorem dX0_neighboursInBay_5 : decode cX0_neighboursInBay 5 = .ok (.istore_n 2, 1) := by decide +kernel
theorem dX0_neighboursInBay_6 : decode cX0_neighboursInBay 6 = .ok (.iconst 0, 1) := by decide +kernel
theorem dX0_neighboursInBay_7 : decode cX0_neighboursInBay 7 = .ok (.istore_n 3, 1) := by decide +kernel
theorem dX0_neighboursInBay_8 : decode cX0_neighboursInBay 8 = .ok (.iload_n 2, 1) := by decide +kernel
theorem dX0_neighboursInBay_9 : decode cX0_neighboursInBay 9 = .ok (.ifCond .le 16, 3) := by decide +kernel
theorem dX0_neighboursInBay_12 : decode cX0_neighboursInBay 12 = .ok (.aload_n 0, 1) := by decide +kernel
theorem dX0_neighboursInBay_13 : decode cX0_neighboursInBay 13 = .ok (.iload_n 1, 1) := by decide +kernel
theorem dX0_neighboursInBay_14 : decode cX0_neighboursInBay 14 = .ok (.iconst 1, 1) := by decide +kernel
theorem dX0_neighboursInBay_15 : decode cX0_neighboursInBay 15 = .ok (.isub, 1) := by decide +kernel
theorem dX0_neighboursInBay_16 : decode cX0_neighboursInBay 16 = .ok (.invokevirtual 58, 3) := by decide +kernel
theorem dX0_neighboursInBay_19 : decode cX0_neighboursInBay 19 = .ok (.ifCond .eq 6, 3) := by decide +kernel
theorem dX0_neighboursInBay_22 : decode cX0_neighboursInBay 22 = .ok (.iinc 3 1, 3) := by decide +kernel
theorem dX0_neighboursInBay_25 : decode cX0_neighboursInBay 25 = .ok (.iload_n 2, 1) := by decide +kernel
theorem dX0_neighboursInBay_26 : decode cX0_neighboursInBay 26 = .ok (.sipush 255, 3) := by decide +kernel
theorem dX0_neighboursInBay_29 : decode cX0_neighboursInBay 29 = .ok (.if_icmp .ge 16, 3) := by decide +kernel
theorem dX0_neighboursInBay_32 : decode cX0_neighboursInBay 32 = .ok (.aload_n 0, 1) := by decide +kernel
theorem dX0_neighboursInBay_33 : decode cX0_neighboursInBay 33 = .ok (.iload_n 1, 1) := by decide +kernel
theorem dX0_neighboursInBay_34 : decode cX0_neighboursInBay 34 = .ok (.iconst 1, 1) := by decide +kernel
theorem dX0_neighboursInBay_35 : decode cX0_neighboursInBay 35 = .ok (.iadd, 1) := by decide +kernel
theorem dX0_neighboursInBay_36 : decode cX0_neighboursInBay 36 = .ok (.invokevirtual 58, 3) := by decide +kernel
theorem dX0_neighboursInBay_39 : decode cX0_neighboursInBay 39 = .ok (.ifCond .eq 6, 3) := by decide +kernel
theorem dX0_neighboursInBay_42 : decode cX0_neighboursInBay 42 = .ok (.iinc 3 1, 3) := by decide +kernel
theorem dX0_neighboursInBay_45 : decode cX0_neighboursInBay 45 = .ok (.iload_n 3, 1) := by decide +kernel
theorem dX0_neighboursInBay_46 : decode cX0_neighboursInBay 46 = .ok (.ireturn, 1) := by decide +kernel
set_option maxRecDepth 20000 in
theorem ggX0_move_X0_holds : GoodIn wsX0_move wsX0_holds := goodIn_r _ [12, 13, 14, 15, 16, 51, 52, 53, 54, 55, 56, 57] (by decide +kernel) (by decide +kernel)
set_option maxRecDepth 20000 in
theorem gX0_move_X0_holds : GoodIn wsX0_move (wsV RX0 58 RX0 yX0_holds wsX0_holds) := goodIn_app (goodIn_of _ (by decide +kernel)) ggX0_move_X0_holds
set_option maxRecDepth 20000 in
theorem ggX0_move_X0_flip : GoodIn wsX0_move wsX0_flip := goodIn_r _ [20, 13, 21, 22, 14, 15, 16, 8, 9, 10, 11, 12, 23, 24, 25, 26, 51, 52, 53, 54, 55, 56, 57] (by decide +kernel) (by decide +kernel)
set_option maxRecDepth 20000 in
theorem gX0_move_X0_flip : GoodIn wsX0_move (wsV RX0 74 RX0 yX0_flip wsX0_flip) := goodIn_app (goodIn_of _ (by decide +kernel)) ggX0_move_X0_flip
set_option maxRecDepth 20000 in
theorem ggX0_move_X0_adaptBoat : GoodIn wsX0_move wsX0_adaptBoat := goodIn_r _ [30, 21, 31, 32, 33, 34, 35, 11, 36, 37, 38, 39, 40, 41, 42, 43, 44, 45, 46, 22, 47, 48, 49, 50, 51, 52, 53, 54, 55, 56, 57] (by decide +kernel) (by decide +kernel)
set_option maxRecDepth 20000 in
theorem gX0_move_X0_adaptBoat : GoodIn wsX0_move (wsV RX0 78 RX0 yX0_adaptBoat wsX0_adaptBoat) := goodIn_app (goodIn_of _ (by decide +kernel)) ggX0_move_X0_adaptBoat
theorem dX0_move_0 : decode cX0_move 0 = .ok (.iload_n 1, 1) := by decide +kernel
theorem dX0_move_1 : decode cX0_move 1 = .ok (.iconst 0, 1) := by decide +kernel
theorem dX0_move_2 : decode cX0_move 2 = .ok (.invokestatic 65, 3) := by decide +kernel
theorem dX0_move_5 : decode cX0_move 5 = .ok (.istore 4, 2) := by decide +kernel
theorem dX0_move_7 : decode cX0_move 7 = .ok (.iload_n 2, 1) := by decide +kernel
theorem dX0_move_8 : decode cX0_move 8 = .ok (.sipush 2047, 3) := by decide +kernel
theorem dX0_move_11 : decode cX0_move 11 = .ok (.invokestatic 71, 3) := by decide +kernel
theorem dX0_move_14 : decode cX0_move 14 = .ok (.istore 5, 2) := by decide +kernel
theorem dX0_move_16 : decode cX0_move 16 = .ok (.iconst 0, 1) := by decide +kernel
theorem dX0_move_17 : decode cX0_move 17 = .ok (.istore 6, 2) := by decide +kernel
theorem dX0_move_19 : decode cX0_move 19 = .ok (.iload 4, 2) := by decide +kernel
theorem dX0_move_21 : decode cX0_move 21 = .ok (.istore 7, 2) := by decide +kernel
theorem dX0_move_23 : decode cX0_move 23 = .ok (.iload 7, 2) := by decide +kernel
theorem dX0_move_25 : decode cX0_move 25 = .ok (.iload 5, 2) := by decide +kernel
theorem dX0_move_27 : decode cX0_move 27 = .ok (.if_icmp .gt 44, 3) := by decide +kernel
theorem dX0_move_30 : decode cX0_move 30 = .ok (.aload_n 0, 1) := by decide +kernel
theorem dX0_move_31 : decode cX0_move 31 = .ok (.iload 7, 2) := by decide +kernel
theorem dX0_move_33 : decode cX0_move 33 = .ok (.invokevirtual 58, 3) := by decide +kernel
theorem dX0_move_36 : decode cX0_move 36 = .ok (.iload_n 3, 1) := by decide +kernel
theorem dX0_move_37 : decode cX0_move 37 = .ok (.if_icmp .eq 28, 3) := by decide +kernel
theorem dX0_move_40 : decode cX0_move 40 = .ok (.aload_n 0, 1) := by decide +kernel
theorem dX0_move_41 : decode cX0_move 41 = .ok (.iload 7, 2) := by decide +kernel
theorem dX0_move_43 : decode cX0_move 43 = .ok (.invokevirtual 74, 3) := by decide +kernel
theorem dX0_move_46 : decode cX0_move 46 = .ok (.aload_n 0, 1) := by decide +kernel
theorem dX0_move_47 : decode cX0_move 47 = .ok (.iload 7, 2) := by decide +kernel
theorem dX0_move_49 : decode cX0_move 49 = .ok (.sipush 256, 3) := by decide +kernel
theorem dX0_move_52 : decode cX0_move 52 = .ok (.idiv, 1) := by decide +kernel
theorem dX0_move_53 : decode cX0_move 53 = .ok (.invokevirtual 78, 3) := by decide +kernel
theorem dX0_move_56 : decode cX0_move 56 = .ok (.ifCond .ne 6, 3) := by decide +kernel
theorem dX0_move_59 : decode cX0_move 59 = .ok (.bipush (-3), 2) := by decide +kernel
theorem dX0_move_61 : decode cX0_move 61 = .ok (.ireturn, 1) := by decide +kernel
theorem dX0_move_62 : decode cX0_move 62 = .ok (.iinc 6 1, 3) := by decide +kernel
theorem dX0_move_65 : decode cX0_move 65 = .ok (.iinc 7 1, 3) := by decide +kernel
theorem dX0_move_68 : decode cX0_move 68 = .ok (.goto (-45), 3) := by decide +kernel
theorem dX0_move_71 : decode cX0_move 71 = .ok (.iload 6, 2) := by decide +kernel
theorem dX0_move_73 : decode cX0_move 73 = .ok (.ireturn, 1) := by decide +kernel
set_option maxRecDepth 20000 in
theorem ggX0_adaptBoat_X0_becomeBest : GoodIn wsX0_adaptBoat wsX0_becomeBest := goodIn_r _ [8, 2, 9, 10, 11, 12, 13, 7, 14, 15, 16, 17, 18, 1, 19, 20, 21, 22, 23, 24, 25, 26, 27, 28, 29, 30] (by decide +kernel) (by decide +kernel)
set_option maxRecDepth 20000 in
theorem gX0_adaptBoat_X0_becomeBest : GoodIn wsX0_adaptBoat (wsV RX0 81 RX0 yX0_becomeBest wsX0_becomeBest) := goodIn_app (goodIn_of _ (by decide +kernel)) ggX0_adaptBoat_X0_becomeBest
set_option maxRecDepth 20000 in
theorem ggX0_adaptBoat_X0_canHold : GoodIn wsX0_adaptBoat wsX0_canHold := goodIn_r _ [18, 1, 19, 24, 25, 26, 27, 28, 29, 30] (by decide +kernel) (by decide +kernel)
set_option maxRecDepth 20000 in
theorem gX0_adaptBoat_X0_canHold : GoodIn wsX0_adaptBoat (wsV RX0 84 RX0 yX0_canHold wsX0_canHold) := goodIn_app (goodIn_of _ (by decide +kernel)) ggX0_adaptBoat_X0_canHold
theorem dX0_adaptBoat_0 : decode cX0_adaptBoat 0 = .ok (.aload_n 0, 1) := by decide +kernel
theorem dX0_adaptBoat_1 : decode cX0_adaptBoat 1 = .ok (.getfield 19, 3) := by decide +kernel
theorem dX0_adaptBoat_4 : decode cX0_adaptBoat 4 = .ok (.iload_n 1, 1) := by decide +kernel
theorem dX0_adaptBoat_5 : decode cX0_adaptBoat 5 = .ok (.iaload, 1) := by decide +kernel
theorem dX0_adaptBoat_6 : decode cX0_adaptBoat 6 = .ok (.ifCond .ne 12, 3) := by decide +kernel
theorem dX0_adaptBoat_9 : decode cX0_adaptBoat 9 = .ok (.aload_n 0, 1) := by decide +kernel
theorem dX0_adaptBoat_10 : decode cX0_adaptBoat 10 = .ok (.getfield 15, 3) := by decide +kernel
theorem dX0_adaptBoat_13 : decode cX0_adaptBoat 13 = .ok (.iload_n 1, 1) := by decide +kernel
theorem dX0_adaptBoat_14 : decode cX0_adaptBoat 14 = .ok (.iconst 0, 1) := by decide +kernel
theorem dX0_adaptBoat_15 : decode cX0_adaptBoat 15 = .ok (.iastore, 1) := by decide +kernel
theorem dX0_adaptBoat_16 : decode cX0_adaptBoat 16 = .ok (.iconst 1, 1) := by decide +kernel
theorem dX0_adaptBoat_17 : decode cX0_adaptBoat 17 = .ok (.ireturn, 1) := by decide +kernel
theorem dX0_adaptBoat_18 : decode cX0_adaptBoat 18 = .ok (.aload_n 0, 1) := by decide +kernel
theorem dX0_adaptBoat_19 : decode cX0_adaptBoat 19 = .ok (.getfield 35, 3) := by decide +kernel
theorem dX0_adaptBoat_22 : decode cX0_adaptBoat 22 = .ok (.ifCond .ne 9, 3) := by decide +kernel
theorem dX0_adaptBoat_25 : decode cX0_adaptBoat 25 = .ok (.aload_n 0, 1) := by decide +kernel
theorem dX0_adaptBoat_26 : decode cX0_adaptBoat 26 = .ok (.iload_n 1, 1) := by decide +kernel
theorem dX0_adaptBoat_27 : decode cX0_adaptBoat 27 = .ok (.invokevirtual 81, 3) := by decide +kernel
theorem dX0_adaptBoat_30 : decode cX0_adaptBoat 30 = .ok (.pop, 1) := by decide +kernel
theorem dX0_adaptBoat_31 : decode cX0_adaptBoat 31 = .ok (.aload_n 0, 1) := by decide +kernel
theorem dX0_adaptBoat_32 : decode cX0_adaptBoat 32 = .ok (.iload_n 1, 1) := by decide +kernel
theorem dX0_adaptBoat_33 : decode cX0_adaptBoat 33 = .ok (.aload_n 0, 1) := by decide +kernel
theorem dX0_adaptBoat_34 : decode cX0_adaptBoat 34 = .ok (.getfield 15, 3) := by decide +kernel
theorem dX0_adaptBoat_37 : decode cX0_adaptBoat 37 = .ok (.iload_n 1, 1) := by decide +kernel
theorem dX0_adaptBoat_38 : decode cX0_adaptBoat 38 = .ok (.iaload, 1) := by decide +kernel
theorem dX0_adaptBoat_39 : decode cX0_adaptBoat 39 = .ok (.invokevirtual 84, 3) := by decide +kernel
theorem dX0_adaptBoat_42 : decode cX0_adaptBoat 42 = .ok (.ireturn, 1) := by decide +kernel
set_option maxRecDepth 20000 in
theorem ggX0_becomeBest_X0_bestKind : GoodIn wsX0_becomeBest wsX0_bestKind := goodIn_r _ [8, 9, 10, 11, 7, 12, 13, 14, 15, 16, 17, 18, 19, 20, 21, 22, 23, 24, 25] (by decide +kernel) (by decide +kernel)
set_option maxRecDepth 20000 in
theorem gX0_becomeBest_X0_bestKind : GoodIn wsX0_becomeBest (wsV RX0 88 RX0 yX0_bestKind wsX0_bestKind) := goodIn_app (goodIn_of _ (by decide +kernel)) ggX0_becomeBest_X0_bestKind
set_option maxRecDepth 20000 in
theorem ggX0_becomeBest_X0_unitsAs : GoodIn wsX0_becomeBest wsX0_unitsAs := goodIn_r _ [18, 13, 14, 19, 20, 21, 22, 23, 24, 25] (by decide +kernel) (by decide +kernel)
set_option maxRecDepth 20000 in
theorem gX0_becomeBest_X0_unitsAs : GoodIn wsX0_becomeBest (wsV RX0 91 RX0 yX0_unitsAs wsX0_unitsAs) := goodIn_app (goodIn_of _ (by decide +kernel)) ggX0_becomeBest_X0_unitsAs
theorem dX0_becomeBest_0 : decode cX0_becomeBest 0 = .ok (.aload_n 0, 1) := by decide +kernel
theorem dX0_becomeBest_1 : decode cX0_becomeBest 1 = .ok (.iload_n 1, 1) := by decide +kernel
theorem dX0_becomeBest_2 : decode cX0_becomeBest 2 = .ok (.invokevirtual 88, 3) := by decide +kernel
theorem dX0_becomeBest_5 : decode cX0_becomeBest 5 = .ok (.istore_n 2, 1) := by decide +kernel
theorem dX0_becomeBest_6 : decode cX0_becomeBest 6 = .ok (.aload_n 0, 1) := by decide +kernel
theorem dX0_becomeBest_7 : decode cX0_becomeBest 7 = .ok (.iload_n 1, 1) := by decide +kernel
theorem dX0_becomeBest_8 : decode cX0_becomeBest 8 = .ok (.iload_n 2, 1) := by decide +kernel
theorem dX0_becomeBest_9 : decode cX0_becomeBest 9 = .ok (.invokevirtual 91, 3) := by decide +kernel
theorem dX0_becomeBest_12 : decode cX0_becomeBest 12 = .ok (.istore_n 3, 1) := by decide +kernel
theorem dX0_becomeBest_13 : decode cX0_becomeBest 13 = .ok (.iload_n 2, 1) := by decide +kernel
theorem dX0_becomeBest_14 : decode cX0_becomeBest 14 = .ok (.aload_n 0, 1) := by decide +kernel
theorem dX0_becomeBest_15 : decode cX0_becomeBest 15 = .ok (.getfield 15, 3) := by decide +kernel
theorem dX0_becomeBest_18 : decode cX0_becomeBest 18 = .ok (.iload_n 1, 1) := by decide +kernel
theorem dX0_becomeBest_19 : decode cX0_becomeBest 19 = .ok (.iaload, 1) := by decide +kernel
theorem dX0_becomeBest_20 : decode cX0_becomeBest 20 = .ok (.if_icmp .eq 11, 3) := by decide +kernel
theorem dX0_becomeBest_23 : decode cX0_becomeBest 23 = .ok (.iload_n 3, 1) := by decide +kernel
theorem dX0_becomeBest_24 : decode cX0_becomeBest 24 = .ok (.aload_n 0, 1) := by decide +kernel
theorem dX0_becomeBest_25 : decode cX0_becomeBest 25 = .ok (.getfield 28, 3) := by decide +kernel
theorem dX0_becomeBest_28 : decode cX0_becomeBest 28 = .ok (.if_icmp .le 5, 3) := by decide +kernel
theorem dX0_becomeBest_31 : decode cX0_becomeBest 31 = .ok (.iconst 0, 1) := by decide +kernel
theorem dX0_becomeBest_32 : decode cX0_becomeBest 32 = .ok (.ireturn, 1) := by decide +kernel
theorem dX0_becomeBest_33 : decode cX0_becomeBest 33 = .ok (.aload_n 0, 1) := by decide +kernel
theorem dX0_becomeBest_34 : decode cX0_becomeBest 34 = .ok (.dup, 1) := by decide +kernel
theorem dX0_becomeBest_35 : decode cX0_becomeBest 35 = .ok (.getfield 28, 3) := by decide +kernel
theorem dX0_becomeBest_38 : decode cX0_becomeBest 38 = .ok (.iload_n 3, 1) := by decide +kernel
theorem dX0_becomeBest_39 : decode cX0_becomeBest 39 = .ok (.isub, 1) := by decide +kernel
theorem dX0_becomeBest_40 : decode cX0_becomeBest 40 = .ok (.putfield 28, 3) := by decide +kernel
theorem dX0_becomeBest_43 : decode cX0_becomeBest 43 = .ok (.aload_n 0, 1) := by decide +kernel
theorem dX0_becomeBest_44 : decode cX0_becomeBest 44 = .ok (.dup, 1) := by decide +kernel
theorem dX0_becomeBest_45 : decode cX0_becomeBest 45 = .ok (.getfield 32, 3) := by decide +kernel
theorem dX0_becomeBest_48 : decode cX0_becomeBest 48 = .ok (.iload_n 3, 1) := by decide +kernel
theorem dX0_becomeBest_49 : decode cX0_becomeBest 49 = .ok (.iadd, 1) := by decide +kernel
theorem dX0_becomeBest_50 : decode cX0_becomeBest 50 = .ok (.putfield 32, 3) := by decide +kernel
theorem dX0_becomeBest_53 : decode cX0_becomeBest 53 = .ok (.aload_n 0, 1) := by decide +kernel
theorem dX0_becomeBest_54 : decode cX0_becomeBest 54 = .ok (.getfield 15, 3) := by decide +kernel
theorem dX0_becomeBest_57 : decode cX0_becomeBest 57 = .ok (.iload_n 1, 1) := by decide +kernel
theorem dX0_becomeBest_58 : decode cX0_becomeBest 58 = .ok (.iload_n 2, 1) := by decide +kernel
theorem dX0_becomeBest_59 : decode cX0_becomeBest 59 = .ok (.iastore, 1) := by decide +kernel
theorem dX0_becomeBest_60 : decode cX0_becomeBest 60 = .ok (.iload_n 3, 1) := by decide +kernel
theorem dX0_becomeBest_61 : decode cX0_becomeBest 61 = .ok (.ireturn, 1) := by decide +kernel
set_option maxRecDepth 20000 in
theorem ggX0_enterHarbour_X0_baySavingMost : GoodIn wsX0_enterHarbour wsX0_baySavingMost := goodIn_r _ [6, 7, 8, 9, 10, 5, 11, 12, 13, 14, 15, 16, 17, 18, 19, 20, 21, 28, 29, 30, 31, 32, 33, 34] (by decide +kernel) (by decide +kernel)
set_option maxRecDepth 20000 in
theorem gX0_enterHarbour_X0_baySavingMost : GoodIn wsX0_enterHarbour (wsV RX0 94 RX0 yX0_baySavingMost wsX0_baySavingMost) := goodIn_app (goodIn_of _ (by decide +kernel)) ggX0_enterHarbour_X0_baySavingMost
set_option maxRecDepth 20000 in
theorem ggX0_enterHarbour_X0_becomeBest : GoodIn wsX0_enterHarbour wsX0_becomeBest := goodIn_r _ [25, 7, 26, 27, 8, 9, 10, 5, 11, 12, 13, 14, 15, 16, 17, 18, 19, 20, 21, 28, 29, 30, 31, 32, 33, 34] (by decide +kernel) (by decide +kernel)
set_option maxRecDepth 20000 in
theorem gX0_enterHarbour_X0_becomeBest : GoodIn wsX0_enterHarbour (wsV RX0 81 RX0 yX0_becomeBest wsX0_becomeBest) := goodIn_app (goodIn_of _ (by decide +kernel)) ggX0_enterHarbour_X0_becomeBest
theorem dX0_enterHarbour_0 : decode cX0_enterHarbour 0 = .ok (.aload_n 0, 1) := by decide +kernel
theorem dX0_enterHarbour_1 : decode cX0_enterHarbour 1 = .ok (.iconst 0, 1) := by decide +kernel
theorem dX0_enterHarbour_2 : decode cX0_enterHarbour 2 = .ok (.putfield 35, 3) := by decide +kernel
theorem dX0_enterHarbour_5 : decode cX0_enterHarbour 5 = .ok (.iconst 0, 1) := by decide +kernel
theorem dX0_enterHarbour_6 : decode cX0_enterHarbour 6 = .ok (.istore_n 1, 1) := by decide +kernel
theorem dX0_enterHarbour_7 : decode cX0_enterHarbour 7 = .ok (.iconst 0, 1) := by decide +kernel
theorem dX0_enterHarbour_8 : decode cX0_enterHarbour 8 = .ok (.istore_n 2, 1) := by decide +kernel
theorem dX0_enterHarbour_9 : decode cX0_enterHarbour 9 = .ok (.iconst 0, 1) := by decide +kernel
theorem dX0_enterHarbour_10 : decode cX0_enterHarbour 10 = .ok (.istore_n 3, 1) := by decide +kernel
theorem dX0_enterHarbour_11 : decode cX0_enterHarbour 11 = .ok (.iload_n 3, 1) := by decide +kernel
theorem dX0_enterHarbour_12 : decode cX0_enterHarbour 12 = .ok (.bipush 8, 2) := by decide +kernel
theorem dX0_enterHarbour_14 : decode cX0_enterHarbour 14 = .ok (.if_icmp .ge 39, 3) := by decide +kernel
theorem dX0_enterHarbour_17 : decode cX0_enterHarbour 17 = .ok (.aload_n 0, 1) := by decide +kernel
theorem dX0_enterHarbour_18 : decode cX0_enterHarbour 18 = .ok (.iload_n 2, 1) := by decide +kernel
theorem dX0_enterHarbour_19 : decode cX0_enterHarbour 19 = .ok (.invokevirtual 94, 3) := by decide +kernel
theorem dX0_enterHarbour_22 : decode cX0_enterHarbour 22 = .ok (.istore 4, 2) := by decide +kernel
theorem dX0_enterHarbour_24 : decode cX0_enterHarbour 24 = .ok (.iload 4, 2) := by decide +kernel
theorem dX0_enterHarbour_26 : decode cX0_enterHarbour 26 = .ok (.bipush (-5), 2) := by decide +kernel
theorem dX0_enterHarbour_28 : decode cX0_enterHarbour 28 = .ok (.if_icmp .eq 19, 3) := by decide +kernel
theorem dX0_enterHarbour_31 : decode cX0_enterHarbour 31 = .ok (.iload_n 2, 1) := by decide +kernel
theorem dX0_enterHarbour_32 : decode cX0_enterHarbour 32 = .ok (.iconst 1, 1) := by decide +kernel
theorem dX0_enterHarbour_33 : decode cX0_enterHarbour 33 = .ok (.iload 4, 2) := by decide +kernel
theorem dX0_enterHarbour_35 : decode cX0_enterHarbour 35 = .ok (.ishl, 1) := by decide +kernel
theorem dX0_enterHarbour_36 : decode cX0_enterHarbour 36 = .ok (.ior, 1) := by decide +kernel
theorem dX0_enterHarbour_37 : decode cX0_enterHarbour 37 = .ok (.istore_n 2, 1) := by decide +kernel
theorem dX0_enterHarbour_38 : decode cX0_enterHarbour 38 = .ok (.iload_n 1, 1) := by decide +kernel
theorem dX0_enterHarbour_39 : decode cX0_enterHarbour 39 = .ok (.aload_n 0, 1) := by decide +kernel
theorem dX0_enterHarbour_40 : decode cX0_enterHarbour 40 = .ok (.iload 4, 2) := by decide +kernel
theorem dX0_enterHarbour_42 : decode cX0_enterHarbour 42 = .ok (.invokevirtual 81, 3) := by decide +kernel
theorem dX0_enterHarbour_45 : decode cX0_enterHarbour 45 = .ok (.iadd, 1) := by decide +kernel
theorem dX0_enterHarbour_46 : decode cX0_enterHarbour 46 = .ok (.istore_n 1, 1) := by decide +kernel
theorem dX0_enterHarbour_47 : decode cX0_enterHarbour 47 = .ok (.iinc 3 1, 3) := by decide +kernel
theorem dX0_enterHarbour_50 : decode cX0_enterHarbour 50 = .ok (.goto (-39), 3) := by decide +kernel
theorem dX0_enterHarbour_53 : decode cX0_enterHarbour 53 = .ok (.iload_n 1, 1) := by decide +kernel
theorem dX0_enterHarbour_54 : decode cX0_enterHarbour 54 = .ok (.ireturn, 1) := by decide +kernel
set_option maxRecDepth 20000 in
theorem ggX0_baySavingMost_X0_bestKind : GoodIn wsX0_baySavingMost wsX0_bestKind := goodIn_r _ [6, 7, 8, 9, 5, 10, 11, 12, 13, 14, 15, 16, 17, 18, 19, 20, 21, 22, 23] (by decide +kernel) (by decide +kernel)
set_option maxRecDepth 20000 in
theorem gX0_baySavingMost_X0_bestKind : GoodIn wsX0_baySavingMost (wsV RX0 88 RX0 yX0_bestKind wsX0_bestKind) := goodIn_app (goodIn_of _ (by decide +kernel)) ggX0_baySavingMost_X0_bestKind
set_option maxRecDepth 20000 in
theorem ggX0_baySavingMost_X0_unitsAs : GoodIn wsX0_baySavingMost wsX0_unitsAs := goodIn_r _ [16, 11, 12, 17, 18, 19, 20, 21, 22, 23] (by decide +kernel) (by decide +kernel)
set_option maxRecDepth 20000 in
theorem gX0_baySavingMost_X0_unitsAs : GoodIn wsX0_baySavingMost (wsV RX0 91 RX0 yX0_unitsAs wsX0_unitsAs) := goodIn_app (goodIn_of _ (by decide +kernel)) ggX0_baySavingMost_X0_unitsAs
theorem dX0_baySavingMost_0 : decode cX0_baySavingMost 0 = .ok (.bipush (-5), 2) := by decide +kernel
theorem dX0_baySavingMost_2 : decode cX0_baySavingMost 2 = .ok (.istore_n 2, 1) := by decide +kernel
theorem dX0_baySavingMost_3 : decode cX0_baySavingMost 3 = .ok (.iconst (-1), 1) := by decide +kernel
theorem dX0_baySavingMost_4 : decode cX0_baySavingMost 4 = .ok (.istore_n 3, 1) := by decide +kernel
theorem dX0_baySavingMost_5 : decode cX0_baySavingMost 5 = .ok (.iconst 0, 1) := by decide +kernel
theorem dX0_baySavingMost_6 : decode cX0_baySavingMost 6 = .ok (.istore 4, 2) := by decide +kernel
theorem dX0_baySavingMost_8 : decode cX0_baySavingMost 8 = .ok (.iload 4, 2) := by decide +kernel
theorem dX0_baySavingMost_10 : decode cX0_baySavingMost 10 = .ok (.bipush 8, 2) := by decide +kernel
theorem dX0_baySavingMost_12 : decode cX0_baySavingMost 12 = .ok (.if_icmp .ge 74, 3) := by decide +kernel
theorem dX0_baySavingMost_15 : decode cX0_baySavingMost 15 = .ok (.aload_n 0, 1) := by decide +kernel
theorem dX0_baySavingMost_16 : decode cX0_baySavingMost 16 = .ok (.iload 4, 2) := by decide +kernel
theorem dX0_baySavingMost_18 : decode cX0_baySavingMost 18 = .ok (.invokevirtual 88, 3) := by decide +kernel
theorem dX0_baySavingMost_21 : decode cX0_baySavingMost 21 = .ok (.istore 5, 2) := by decide +kernel
theorem dX0_baySavingMost_23 : decode cX0_baySavingMost 23 = .ok (.aload_n 0, 1) := by decide +kernel
theorem dX0_baySavingMost_24 : decode cX0_baySavingMost 24 = .ok (.iload 4, 2) := by decide +kernel
theorem dX0_baySavingMost_26 : decode cX0_baySavingMost 26 = .ok (.aload_n 0, 1) := by decide +kernel
theorem dX0_baySavingMost_27 : decode cX0_baySavingMost 27 = .ok (.getfield 15, 3) := by decide +kernel
theorem dX0_baySavingMost_30 : decode cX0_baySavingMost 30 = .ok (.iload 4, 2) := by decide +kernel
theorem dX0_baySavingMost_32 : decode cX0_baySavingMost 32 = .ok (.iaload, 1) := by decide +kernel
theorem dX0_baySavingMost_33 : decode cX0_baySavingMost 33 = .ok (.invokevirtual 91, 3) := by decide +kernel
theorem dX0_baySavingMost_36 : decode cX0_baySavingMost 36 = .ok (.aload_n 0, 1) := by decide +kernel
theorem dX0_baySavingMost_37 : decode cX0_baySavingMost 37 = .ok (.iload 4, 2) := by decide +kernel
theorem dX0_baySavingMost_39 : decode cX0_baySavingMost 39 = .ok (.iload 5, 2) := by decide +kernel
theorem dX0_baySavingMost_41 : decode cX0_baySavingMost 41 = .ok (.invokevirtual 91, 3) := by decide +kernel
theorem dX0_baySavingMost_44 : decode cX0_baySavingMost 44 = .ok (.isub, 1) := by decide +kernel
theorem dX0_baySavingMost_45 : decode cX0_baySavingMost 45 = .ok (.istore 6, 2) := by decide +kernel
theorem dX0_baySavingMost_47 : decode cX0_baySavingMost 47 = .ok (.iload_n 1, 1) := by decide +kernel
theorem dX0_baySavingMost_48 : decode cX0_baySavingMost 48 = .ok (.iload 4, 2) := by decide +kernel
theorem dX0_baySavingMost_50 : decode cX0_baySavingMost 50 = .ok (.ishr, 1) := by decide +kernel
theorem dX0_baySavingMost_51 : decode cX0_baySavingMost 51 = .ok (.iconst 1, 1) := by decide +kernel
theorem dX0_baySavingMost_52 : decode cX0_baySavingMost 52 = .ok (.iand, 1) := by decide +kernel
theorem dX0_baySavingMost_53 : decode cX0_baySavingMost 53 = .ok (.ifCond .ne 27, 3) := by decide +kernel
theorem dX0_baySavingMost_56 : decode cX0_baySavingMost 56 = .ok (.aload_n 0, 1) := by decide +kernel
theorem dX0_baySavingMost_57 : decode cX0_baySavingMost 57 = .ok (.getfield 15, 3) := by decide +kernel
theorem dX0_baySavingMost_60 : decode cX0_baySavingMost 60 = .ok (.iload 4, 2) := by decide +kernel
theorem dX0_baySavingMost_62 : decode cX0_baySavingMost 62 = .ok (.iaload, 1) := by decide +kernel
theorem dX0_baySavingMost_63 : decode cX0_baySavingMost 63 = .ok (.iload 5, 2) := by decide +kernel
theorem dX0_baySavingMost_65 : decode cX0_baySavingMost 65 = .ok (.if_icmp .eq 15, 3) := by decide +kernel
theorem dX0_baySavingMost_68 : decode cX0_baySavingMost 68 = .ok (.iload 6, 2) := by decide +kernel
theorem dX0_baySavingMost_70 : decode cX0_baySavingMost 70 = .ok (.iload_n 3, 1) := by decide +kernel
theorem dX0_baySavingMost_71 : decode cX0_baySavingMost 71 = .ok (.if_icmp .le 9, 3) := by decide +kernel
theorem dX0_baySavingMost_74 : decode cX0_baySavingMost 74 = .ok (.iload 4, 2) := by decide +kernel
theorem dX0_baySavingMost_76 : decode cX0_baySavingMost 76 = .ok (.istore_n 2, 1) := by decide +kernel
theorem dX0_baySavingMost_77 : decode cX0_baySavingMost 77 = .ok (.iload 6, 2) := by decide +kernel
theorem dX0_baySavingMost_79 : decode cX0_baySavingMost 79 = .ok (.istore_n 3, 1) := by decide +kernel
theorem dX0_baySavingMost_80 : decode cX0_baySavingMost 80 = .ok (.iinc 4 1, 3) := by decide +kernel
theorem dX0_baySavingMost_83 : decode cX0_baySavingMost 83 = .ok (.goto (-75), 3) := by decide +kernel
theorem dX0_baySavingMost_86 : decode cX0_baySavingMost 86 = .ok (.iload_n 2, 1) := by decide +kernel
theorem dX0_baySavingMost_87 : decode cX0_baySavingMost 87 = .ok (.ireturn, 1) := by decide +kernel
theorem dX0_canHold_0 : decode cX0_canHold 0 = .ok (.iload_n 2, 1) := by decide +kernel
theorem dX0_canHold_1 : decode cX0_canHold 1 = .ok (.lookupswitch 61 #[(0, 27), (2, 44)], 27) := by decide +kernel
theorem dX0_canHold_28 : decode cX0_canHold 28 = .ok (.aload_n 0, 1) := by decide +kernel
theorem dX0_canHold_29 : decode cX0_canHold 29 = .ok (.getfield 19, 3) := by decide +kernel
theorem dX0_canHold_32 : decode cX0_canHold 32 = .ok (.iload_n 1, 1) := by decide +kernel
theorem dX0_canHold_33 : decode cX0_canHold 33 = .ok (.iaload, 1) := by decide +kernel
theorem dX0_canHold_34 : decode cX0_canHold 34 = .ok (.bipush 24, 2) := by decide +kernel
theorem dX0_canHold_36 : decode cX0_canHold 36 = .ok (.if_icmp .gt 7, 3) := by decide +kernel
theorem dX0_canHold_39 : decode cX0_canHold 39 = .ok (.iconst 1, 1) := by decide +kernel
theorem dX0_canHold_40 : decode cX0_canHold 40 = .ok (.goto 4, 3) := by decide +kernel
theorem dX0_canHold_43 : decode cX0_canHold 43 = .ok (.iconst 0, 1) := by decide +kernel
theorem dX0_canHold_44 : decode cX0_canHold 44 = .ok (.ireturn, 1) := by decide +kernel
theorem dX0_canHold_45 : decode cX0_canHold 45 = .ok (.aload_n 0, 1) := by decide +kernel
theorem dX0_canHold_46 : decode cX0_canHold 46 = .ok (.getfield 22, 3) := by decide +kernel
theorem dX0_canHold_49 : decode cX0_canHold 49 = .ok (.iload_n 1, 1) := by decide +kernel
theorem dX0_canHold_50 : decode cX0_canHold 50 = .ok (.iaload, 1) := by decide +kernel
theorem dX0_canHold_51 : decode cX0_canHold 51 = .ok (.bipush 8, 2) := by decide +kernel
theorem dX0_canHold_53 : decode cX0_canHold 53 = .ok (.if_icmp .gt 7, 3) := by decide +kernel
theorem dX0_canHold_56 : decode cX0_canHold 56 = .ok (.iconst 1, 1) := by decide +kernel
theorem dX0_canHold_57 : decode cX0_canHold 57 = .ok (.goto 4, 3) := by decide +kernel
theorem dX0_canHold_60 : decode cX0_canHold 60 = .ok (.iconst 0, 1) := by decide +kernel
theorem dX0_canHold_61 : decode cX0_canHold 61 = .ok (.ireturn, 1) := by decide +kernel
theorem dX0_canHold_62 : decode cX0_canHold 62 = .ok (.iconst 1, 1) := by decide +kernel
theorem dX0_canHold_63 : decode cX0_canHold 63 = .ok (.ireturn, 1) := by decide +kernel
theorem dX0_unitsAs_0 : decode cX0_unitsAs 0 = .ok (.iload_n 2, 1) := by decide +kernel
theorem dX0_unitsAs_1 : decode cX0_unitsAs 1 = .ok (.lookupswitch 45 #[(0, 27), (2, 36)], 27) := by decide +kernel
theorem dX0_unitsAs_28 : decode cX0_unitsAs 28 = .ok (.iconst 2, 1) := by decide +kernel
theorem dX0_unitsAs_29 : decode cX0_unitsAs 29 = .ok (.aload_n 0, 1) := by decide +kernel
theorem dX0_unitsAs_30 : decode cX0_unitsAs 30 = .ok (.getfield 19, 3) := by decide +kernel
theorem dX0_unitsAs_33 : decode cX0_unitsAs 33 = .ok (.iload_n 1, 1) := by decide +kernel
theorem dX0_unitsAs_34 : decode cX0_unitsAs 34 = .ok (.iaload, 1) := by decide +kernel
theorem dX0_unitsAs_35 : decode cX0_unitsAs 35 = .ok (.imul, 1) := by decide +kernel
theorem dX0_unitsAs_36 : decode cX0_unitsAs 36 = .ok (.ireturn, 1) := by decide +kernel
theorem dX0_unitsAs_37 : decode cX0_unitsAs 37 = .ok (.iconst 3, 1) := by decide +kernel
theorem dX0_unitsAs_38 : decode cX0_unitsAs 38 = .ok (.aload_n 0, 1) := by decide +kernel
theorem dX0_unitsAs_39 : decode cX0_unitsAs 39 = .ok (.getfield 22, 3) := by decide +kernel
theorem dX0_unitsAs_42 : decode cX0_unitsAs 42 = .ok (.iload_n 1, 1) := by decide +kernel
theorem dX0_unitsAs_43 : decode cX0_unitsAs 43 = .ok (.iaload, 1) := by decide +kernel
theorem dX0_unitsAs_44 : decode cX0_unitsAs 44 = .ok (.imul, 1) := by decide +kernel
theorem dX0_unitsAs_45 : decode cX0_unitsAs 45 = .ok (.ireturn, 1) := by decide +kernel
theorem dX0_unitsAs_46 : decode cX0_unitsAs 46 = .ok (.bipush 32, 2) := by decide +kernel
theorem dX0_unitsAs_48 : decode cX0_unitsAs 48 = .ok (.ireturn, 1) := by decide +kernel
set_option maxRecDepth 20000 in
theorem ggX0_bestKind_X0_canHold : GoodIn wsX0_bestKind wsX0_canHold := goodIn_r _ [5, 6, 7, 12, 13, 14, 15, 16, 17, 18] (by decide +kernel) (by decide +kernel)
set_option maxRecDepth 20000 in
theorem gX0_bestKind_X0_canHold : GoodIn wsX0_bestKind (wsV RX0 84 RX0 yX0_canHold wsX0_canHold) := goodIn_app (goodIn_of _ (by decide +kernel)) ggX0_bestKind_X0_canHold
set_option maxRecDepth 20000 in
theorem ggX0_bestKind_X0_unitsAs : GoodIn wsX0_bestKind wsX0_unitsAs := goodIn_r _ [11, 6, 7, 12, 13, 14, 15, 16, 17, 18] (by decide +kernel) (by decide +kernel)
set_option maxRecDepth 20000 in
theorem gX0_bestKind_X0_unitsAs : GoodIn wsX0_bestKind (wsV RX0 91 RX0 yX0_unitsAs wsX0_unitsAs) := goodIn_app (goodIn_of _ (by decide +kernel)) ggX0_bestKind_X0_unitsAs
theorem dX0_bestKind_0 : decode cX0_bestKind 0 = .ok (.iconst 1, 1) := by decide +kernel
theorem dX0_bestKind_1 : decode cX0_bestKind 1 = .ok (.istore_n 2, 1) := by decide +kernel
theorem dX0_bestKind_2 : decode cX0_bestKind 2 = .ok (.aload_n 0, 1) := by decide +kernel
theorem dX0_bestKind_3 : decode cX0_bestKind 3 = .ok (.iload_n 1, 1) := by decide +kernel
theorem dX0_bestKind_4 : decode cX0_bestKind 4 = .ok (.iconst 0, 1) := by decide +kernel
theorem dX0_bestKind_5 : decode cX0_bestKind 5 = .ok (.invokevirtual 84, 3) := by decide +kernel
theorem dX0_bestKind_8 : decode cX0_bestKind 8 = .ok (.ifCond .eq 20, 3) := by decide +kernel
theorem dX0_bestKind_11 : decode cX0_bestKind 11 = .ok (.aload_n 0, 1) := by decide +kernel
theorem dX0_bestKind_12 : decode cX0_bestKind 12 = .ok (.iload_n 1, 1) := by decide +kernel
theorem dX0_bestKind_13 : decode cX0_bestKind 13 = .ok (.iconst 0, 1) := by decide +kernel
theorem dX0_bestKind_14 : decode cX0_bestKind 14 = .ok (.invokevirtual 91, 3) := by decide +kernel
theorem dX0_bestKind_17 : decode cX0_bestKind 17 = .ok (.aload_n 0, 1) := by decide +kernel
theorem dX0_bestKind_18 : decode cX0_bestKind 18 = .ok (.iload_n 1, 1) := by decide +kernel
theorem dX0_bestKind_19 : decode cX0_bestKind 19 = .ok (.iconst 1, 1) := by decide +kernel
theorem dX0_bestKind_20 : decode cX0_bestKind 20 = .ok (.invokevirtual 91, 3) := by decide +kernel
theorem dX0_bestKind_23 : decode cX0_bestKind 23 = .ok (.if_icmp .gt 5, 3) := by decide +kernel
theorem dX0_bestKind_26 : decode cX0_bestKind 26 = .ok (.iconst 0, 1) := by decide +kernel
theorem dX0_bestKind_27 : decode cX0_bestKind 27 = .ok (.istore_n 2, 1) := by decide +kernel
theorem dX0_bestKind_28 : decode cX0_bestKind 28 = .ok (.aload_n 0, 1) := by decide +kernel
theorem dX0_bestKind_29 : decode cX0_bestKind 29 = .ok (.iload_n 1, 1) := by decide +kernel
theorem dX0_bestKind_30 : decode cX0_bestKind 30 = .ok (.iconst 2, 1) := by decide +kernel
theorem dX0_bestKind_31 : decode cX0_bestKind 31 = .ok (.invokevirtual 84, 3) := by decide +kernel
theorem dX0_bestKind_34 : decode cX0_bestKind 34 = .ok (.ifCond .eq 20, 3) := by decide +kernel
theorem dX0_bestKind_37 : decode cX0_bestKind 37 = .ok (.aload_n 0, 1) := by decide +kernel
theorem dX0_bestKind_38 : decode cX0_bestKind 38 = .ok (.iload_n 1, 1) := by decide +kernel
theorem dX0_bestKind_39 : decode cX0_bestKind 39 = .ok (.iconst 2, 1) := by decide +kernel
theorem dX0_bestKind_40 : decode cX0_bestKind 40 = .ok (.invokevirtual 91, 3) := by decide +kernel
theorem dX0_bestKind_43 : decode cX0_bestKind 43 = .ok (.aload_n 0, 1) := by decide +kernel
theorem dX0_bestKind_44 : decode cX0_bestKind 44 = .ok (.iload_n 1, 1) := by decide +kernel
theorem dX0_bestKind_45 : decode cX0_bestKind 45 = .ok (.iload_n 2, 1) := by decide +kernel
theorem dX0_bestKind_46 : decode cX0_bestKind 46 = .ok (.invokevirtual 91, 3) := by decide +kernel
theorem dX0_bestKind_49 : decode cX0_bestKind 49 = .ok (.if_icmp .ge 5, 3) := by decide +kernel
theorem dX0_bestKind_52 : decode cX0_bestKind 52 = .ok (.iconst 2, 1) := by decide +kernel
theorem dX0_bestKind_53 : decode cX0_bestKind 53 = .ok (.istore_n 2, 1) := by decide +kernel
theorem dX0_bestKind_54 : decode cX0_bestKind 54 = .ok (.iload_n 2, 1) := by decide +kernel
theorem dX0_bestKind_55 : decode cX0_bestKind 55 = .ok (.ireturn, 1) := by decide +kernel
set_option maxRecDepth 20000 in
theorem ggX0_tollToBest_X0_bestKind : GoodIn wsX0_tollToBest wsX0_bestKind := goodIn_r _ [6, 7, 8, 9, 5, 10, 11, 12, 13, 14, 15, 16, 17, 18, 19, 20, 21, 22, 23] (by decide +kernel) (by decide +kernel)
set_option maxRecDepth 20000 in
theorem gX0_tollToBest_X0_bestKind : GoodIn wsX0_tollToBest (wsV RX0 88 RX0 yX0_bestKind wsX0_bestKind) := goodIn_app (goodIn_of _ (by decide +kernel)) ggX0_tollToBest_X0_bestKind
set_option maxRecDepth 20000 in
theorem ggX0_tollToBest_X0_unitsAs : GoodIn wsX0_tollToBest wsX0_unitsAs := goodIn_r _ [16, 11, 12, 17, 18, 19, 20, 21, 22, 23] (by decide +kernel) (by decide +kernel)
set_option maxRecDepth 20000 in
theorem gX0_tollToBest_X0_unitsAs : GoodIn wsX0_tollToBest (wsV RX0 91 RX0 yX0_unitsAs wsX0_unitsAs) := goodIn_app (goodIn_of _ (by decide +kernel)) ggX0_tollToBest_X0_unitsAs
theorem dX0_tollToBest_0 : decode cX0_tollToBest 0 = .ok (.aload_n 0, 1) := by decide +kernel
theorem dX0_tollToBest_1 : decode cX0_tollToBest 1 = .ok (.iload_n 1, 1) := by decide +kernel
theorem dX0_tollToBest_2 : decode cX0_tollToBest 2 = .ok (.invokevirtual 88, 3) := by decide +kernel
theorem dX0_tollToBest_5 : decode cX0_tollToBest 5 = .ok (.istore_n 2, 1) := by decide +kernel
theorem dX0_tollToBest_6 : decode cX0_tollToBest 6 = .ok (.iload_n 2, 1) := by decide +kernel
theorem dX0_tollToBest_7 : decode cX0_tollToBest 7 = .ok (.aload_n 0, 1) := by decide +kernel
theorem dX0_tollToBest_8 : decode cX0_tollToBest 8 = .ok (.getfield 15, 3) := by decide +kernel
theorem dX0_tollToBest_11 : decode cX0_tollToBest 11 = .ok (.iload_n 1, 1) := by decide +kernel
theorem dX0_tollToBest_12 : decode cX0_tollToBest 12 = .ok (.iaload, 1) := by decide +kernel
theorem dX0_tollToBest_13 : decode cX0_tollToBest 13 = .ok (.if_icmp .ne 7, 3) := by decide +kernel
theorem dX0_tollToBest_16 : decode cX0_tollToBest 16 = .ok (.iconst 0, 1) := by decide +kernel
theorem dX0_tollToBest_17 : decode cX0_tollToBest 17 = .ok (.goto 9, 3) := by decide +kernel
theorem dX0_tollToBest_20 : decode cX0_tollToBest 20 = .ok (.aload_n 0, 1) := by decide +kernel
theorem dX0_tollToBest_21 : decode cX0_tollToBest 21 = .ok (.iload_n 1, 1) := by decide +kernel
theorem dX0_tollToBest_22 : decode cX0_tollToBest 22 = .ok (.iload_n 2, 1) := by decide +kernel
theorem dX0_tollToBest_23 : decode cX0_tollToBest 23 = .ok (.invokevirtual 91, 3) := by decide +kernel
theorem dX0_tollToBest_26 : decode cX0_tollToBest 26 = .ok (.ireturn, 1) := by decide +kernel
set_option maxRecDepth 20000 in
theorem ggX0_fillWith_X0_clearNumbers : GoodIn wsX0_fillWith wsX0_clearNumbers := goodIn_r _ [7, 1, 2, 8, 9, 10, 11, 12, 13, 14, 15, 16, 47, 48, 49, 50, 51, 52, 53] (by decide +kernel) (by decide +kernel)
set_option maxRecDepth 20000 in
theorem gX0_fillWith_X0_clearNumbers : GoodIn wsX0_fillWith (wsV RX0 25 RX0 yX0_clearNumbers wsX0_clearNumbers) := goodIn_app (goodIn_of _ (by decide +kernel)) ggX0_fillWith_X0_clearNumbers
set_option maxRecDepth 20000 in
theorem ggX0_fillWith_X4_join : GoodIn wsX0_fillWith wsX4_join := goodIn_r _ [19, 20] (by decide +kernel) (by decide +kernel)
set_option maxRecDepth 20000 in
theorem gX0_fillWith_X4_join_n97 : GoodIn wsX0_fillWith (wsX4_join) := ggX0_fillWith_X4_join
set_option maxRecDepth 20000 in
theorem ggX0_fillWith_X0_flip : GoodIn wsX0_fillWith wsX0_flip := goodIn_r _ [24, 1, 8, 9, 25, 18, 26, 27, 28, 29, 6, 30, 31, 32, 33, 34, 47, 48, 49, 50, 51, 52, 53] (by decide +kernel) (by decide +kernel)
set_option maxRecDepth 20000 in
theorem gX0_fillWith_X0_flip : GoodIn wsX0_fillWith (wsV RX0 74 RX0 yX0_flip wsX0_flip) := goodIn_app (goodIn_of _ (by decide +kernel)) ggX0_fillWith_X0_flip
set_option maxRecDepth 20000 in
theorem ggX0_fillWith_X0_bestKind : GoodIn wsX0_fillWith wsX0_bestKind := goodIn_r _ [38, 39, 40, 41, 6, 42, 8, 9, 43, 44, 45, 46, 47, 48, 49, 50, 51, 52, 53] (by decide +kernel) (by decide +kernel)
set_option maxRecDepth 20000 in
theorem gX0_fillWith_X0_bestKind : GoodIn wsX0_fillWith (wsV RX0 88 RX0 yX0_bestKind wsX0_bestKind) := goodIn_app (goodIn_of _ (by decide +kernel)) ggX0_fillWith_X0_bestKind
theorem dX0_fillWith_0 : decode cX0_fillWith 0 = .ok (.aload_n 0, 1) := by decide +kernel
theorem dX0_fillWith_1 : decode cX0_fillWith 1 = .ok (.invokevirtual 25, 3) := by decide +kernel
theorem dX0_fillWith_4 : decode cX0_fillWith 4 = .ok (.iconst 0, 1) := by decide +kernel
theorem dX0_fillWith_5 : decode cX0_fillWith 5 = .ok (.istore 4, 2) := by decide +kernel
theorem dX0_fillWith_7 : decode cX0_fillWith 7 = .ok (.iload 4, 2) := by decide +kernel
theorem dX0_fillWith_9 : decode cX0_fillWith 9 = .ok (.bipush 32, 2) := by decide +kernel
theorem dX0_fillWith_11 : decode cX0_fillWith 11 = .ok (.if_icmp .ge 69, 3) := by decide +kernel
theorem dX0_fillWith_14 : decode cX0_fillWith 14 = .ok (.iload_n 1, 1) := by decide +kernel
theorem dX0_fillWith_15 : decode cX0_fillWith 15 = .ok (.aload_n 2, 1) := by decide +kernel
theorem dX0_fillWith_16 : decode cX0_fillWith 16 = .ok (.getfield 9, 3) := by decide +kernel
theorem dX0_fillWith_19 : decode cX0_fillWith 19 = .ok (.iload 4, 2) := by decide +kernel
theorem dX0_fillWith_21 : decode cX0_fillWith 21 = .ok (.laload, 1) := by decide +kernel
theorem dX0_fillWith_22 : decode cX0_fillWith 22 = .ok (.aload_n 3, 1) := by decide +kernel
theorem dX0_fillWith_23 : decode cX0_fillWith 23 = .ok (.getfield 9, 3) := by decide +kernel
theorem dX0_fillWith_26 : decode cX0_fillWith 26 = .ok (.iload 4, 2) := by decide +kernel
theorem dX0_fillWith_28 : decode cX0_fillWith 28 = .ok (.laload, 1) := by decide +kernel
theorem dX0_fillWith_29 : decode cX0_fillWith 29 = .ok (.invokestatic 97, 3) := by decide +kernel
theorem dX0_fillWith_32 : decode cX0_fillWith 32 = .ok (.lstore 5, 2) := by decide +kernel
theorem dX0_fillWith_34 : decode cX0_fillWith 34 = .ok (.iconst 0, 1) := by decide +kernel
theorem dX0_fillWith_35 : decode cX0_fillWith 35 = .ok (.istore 7, 2) := by decide +kernel
theorem dX0_fillWith_37 : decode cX0_fillWith 37 = .ok (.iload 7, 2) := by decide +kernel
theorem dX0_fillWith_39 : decode cX0_fillWith 39 = .ok (.bipush 64, 2) := by decide +kernel
theorem dX0_fillWith_41 : decode cX0_fillWith 41 = .ok (.if_icmp .ge 33, 3) := by decide +kernel
theorem dX0_fillWith_44 : decode cX0_fillWith 44 = .ok (.lload 5, 2) := by decide +kernel
theorem dX0_fillWith_46 : decode cX0_fillWith 46 = .ok (.iload 7, 2) := by decide +kernel
theorem dX0_fillWith_48 : decode cX0_fillWith 48 = .ok (.lushr, 1) := by decide +kernel
theorem dX0_fillWith_49 : decode cX0_fillWith 49 = .ok (.lconst 1, 1) := by decide +kernel
theorem dX0_fillWith_50 : decode cX0_fillWith 50 = .ok (.land, 1) := by decide +kernel
theorem dX0_fillWith_51 : decode cX0_fillWith 51 = .ok (.lconst 0, 1) := by decide +kernel
theorem dX0_fillWith_52 : decode cX0_fillWith 52 = .ok (.lcmp, 1) := by decide +kernel
theorem dX0_fillWith_53 : decode cX0_fillWith 53 = .ok (.ifCond .eq 15, 3) := by decide +kernel
theorem dX0_fillWith_56 : decode cX0_fillWith 56 = .ok (.aload_n 0, 1) := by decide +kernel
theorem dX0_fillWith_57 : decode cX0_fillWith 57 = .ok (.iload 4, 2) := by decide +kernel
theorem dX0_fillWith_59 : decode cX0_fillWith 59 = .ok (.bipush 64, 2) := by decide +kernel
theorem dX0_fillWith_61 : decode cX0_fillWith 61 = .ok (.imul, 1) := by decide +kernel
theorem dX0_fillWith_62 : decode cX0_fillWith 62 = .ok (.iload 7, 2) := by decide +kernel
theorem dX0_fillWith_64 : decode cX0_fillWith 64 = .ok (.iadd, 1) := by decide +kernel
theorem dX0_fillWith_65 : decode cX0_fillWith 65 = .ok (.invokevirtual 74, 3) := by decide +kernel
theorem dX0_fillWith_68 : decode cX0_fillWith 68 = .ok (.iinc 7 1, 3) := by decide +kernel
theorem dX0_fillWith_71 : decode cX0_fillWith 71 = .ok (.goto (-34), 3) := by decide +kernel
theorem dX0_fillWith_74 : decode cX0_fillWith 74 = .ok (.iinc 4 1, 3) := by decide +kernel
theorem dX0_fillWith_77 : decode cX0_fillWith 77 = .ok (.goto (-70), 3) := by decide +kernel
theorem dX0_fillWith_80 : decode cX0_fillWith 80 = .ok (.iconst 0, 1) := by decide +kernel
theorem dX0_fillWith_81 : decode cX0_fillWith 81 = .ok (.istore 4, 2) := by decide +kernel
theorem dX0_fillWith_83 : decode cX0_fillWith 83 = .ok (.iload 4, 2) := by decide +kernel
theorem dX0_fillWith_85 : decode cX0_fillWith 85 = .ok (.bipush 8, 2) := by decide +kernel
theorem dX0_fillWith_87 : decode cX0_fillWith 87 = .ok (.if_icmp .ge 22, 3) := by decide +kernel
theorem dX0_fillWith_90 : decode cX0_fillWith 90 = .ok (.aload_n 0, 1) := by decide +kernel
theorem dX0_fillWith_91 : decode cX0_fillWith 91 = .ok (.getfield 15, 3) := by decide +kernel
theorem dX0_fillWith_94 : decode cX0_fillWith 94 = .ok (.iload 4, 2) := by decide +kernel
theorem dX0_fillWith_96 : decode cX0_fillWith 96 = .ok (.aload_n 0, 1) := by decide +kernel
theorem dX0_fillWith_97 : decode cX0_fillWith 97 = .ok (.iload 4, 2) := by decide +kernel
theorem dX0_fillWith_99 : decode cX0_fillWith 99 = .ok (.invokevirtual 88, 3) := by decide +kernel
theorem dX0_fillWith_102 : decode cX0_fillWith 102 = .ok (.iastore, 1) := by decide +kernel
theorem dX0_fillWith_103 : decode cX0_fillWith 103 = .ok (.iinc 4 1, 3) := by decide +kernel
theorem dX0_fillWith_106 : decode cX0_fillWith 106 = .ok (.goto (-23), 3) := by decide +kernel
theorem dX0_fillWith_109 : decode cX0_fillWith 109 = .ok (.return_, 1) := by decide +kernel
theorem dX0_numbers_0 : decode cX0_numbers 0 = .ok (.iconst 0, 1) := by decide +kernel
theorem dX0_numbers_1 : decode cX0_numbers 1 = .ok (.istore_n 1, 1) := by decide +kernel
theorem dX0_numbers_2 : decode cX0_numbers 2 = .ok (.iconst 0, 1) := by decide +kernel
theorem dX0_numbers_3 : decode cX0_numbers 3 = .ok (.istore_n 2, 1) := by decide +kernel
theorem dX0_numbers_4 : decode cX0_numbers 4 = .ok (.iload_n 2, 1) := by decide +kernel
theorem dX0_numbers_5 : decode cX0_numbers 5 = .ok (.bipush 8, 2) := by decide +kernel
theorem dX0_numbers_7 : decode cX0_numbers 7 = .ok (.if_icmp .ge 18, 3) := by decide +kernel
theorem dX0_numbers_10 : decode cX0_numbers 10 = .ok (.iload_n 1, 1) := by decide +kernel
theorem dX0_numbers_11 : decode cX0_numbers 11 = .ok (.aload_n 0, 1) := by decide +kernel
theorem dX0_numbers_12 : decode cX0_numbers 12 = .ok (.getfield 19, 3) := by decide +kernel
theorem dX0_numbers_15 : decode cX0_numbers 15 = .ok (.iload_n 2, 1) := by decide +kernel
theorem dX0_numbers_16 : decode cX0_numbers 16 = .ok (.iaload, 1) := by decide +kernel
theorem dX0_numbers_17 : decode cX0_numbers 17 = .ok (.iadd, 1) := by decide +kernel
theorem dX0_numbers_18 : decode cX0_numbers 18 = .ok (.istore_n 1, 1) := by decide +kernel
theorem dX0_numbers_19 : decode cX0_numbers 19 = .ok (.iinc 2 1, 3) := by decide +kernel
theorem dX0_numbers_22 : decode cX0_numbers 22 = .ok (.goto (-18), 3) := by decide +kernel
theorem dX0_numbers_25 : decode cX0_numbers 25 = .ok (.iload_n 1, 1) := by decide +kernel
theorem dX0_numbers_26 : decode cX0_numbers 26 = .ok (.ireturn, 1) := by decide +kernel
set_option maxRecDepth 20000 in
theorem ggX0_boats_X0_boatsOfKind : GoodIn wsX0_boats wsX0_boatsOfKind := goodIn_r _ [5, 6, 7, 8, 9, 10, 11, 12, 13, 14] (by decide +kernel) (by decide +kernel)
set_option maxRecDepth 20000 in
theorem gX0_boats_X0_boatsOfKind : GoodIn wsX0_boats (wsV RX0 101 RX0 yX0_boatsOfKind wsX0_boatsOfKind) := goodIn_app (goodIn_of _ (by decide +kernel)) ggX0_boats_X0_boatsOfKind
theorem dX0_boats_0 : decode cX0_boats 0 = .ok (.aload_n 0, 1) := by decide +kernel
theorem dX0_boats_1 : decode cX0_boats 1 = .ok (.iconst 0, 1) := by decide +kernel
theorem dX0_boats_2 : decode cX0_boats 2 = .ok (.invokevirtual 101, 3) := by decide +kernel
theorem dX0_boats_5 : decode cX0_boats 5 = .ok (.aload_n 0, 1) := by decide +kernel
theorem dX0_boats_6 : decode cX0_boats 6 = .ok (.iconst 1, 1) := by decide +kernel
theorem dX0_boats_7 : decode cX0_boats 7 = .ok (.invokevirtual 101, 3) := by decide +kernel
theorem dX0_boats_10 : decode cX0_boats 10 = .ok (.iadd, 1) := by decide +kernel
theorem dX0_boats_11 : decode cX0_boats 11 = .ok (.aload_n 0, 1) := by decide +kernel
theorem dX0_boats_12 : decode cX0_boats 12 = .ok (.iconst 2, 1) := by decide +kernel
theorem dX0_boats_13 : decode cX0_boats 13 = .ok (.invokevirtual 101, 3) := by decide +kernel
theorem dX0_boats_16 : decode cX0_boats 16 = .ok (.iadd, 1) := by decide +kernel
theorem dX0_boats_17 : decode cX0_boats 17 = .ok (.ireturn, 1) := by decide +kernel
theorem dX0_boatsOfKind_0 : decode cX0_boatsOfKind 0 = .ok (.iconst 0, 1) := by decide +kernel
theorem dX0_boatsOfKind_1 : decode cX0_boatsOfKind 1 = .ok (.istore_n 2, 1) := by decide +kernel
theorem dX0_boatsOfKind_2 : decode cX0_boatsOfKind 2 = .ok (.iconst 0, 1) := by decide +kernel
theorem dX0_boatsOfKind_3 : decode cX0_boatsOfKind 3 = .ok (.istore_n 3, 1) := by decide +kernel
theorem dX0_boatsOfKind_4 : decode cX0_boatsOfKind 4 = .ok (.iload_n 3, 1) := by decide +kernel
theorem dX0_boatsOfKind_5 : decode cX0_boatsOfKind 5 = .ok (.bipush 8, 2) := by decide +kernel
theorem dX0_boatsOfKind_7 : decode cX0_boatsOfKind 7 = .ok (.if_icmp .ge 31, 3) := by decide +kernel
theorem dX0_boatsOfKind_10 : decode cX0_boatsOfKind 10 = .ok (.aload_n 0, 1) := by decide +kernel
theorem dX0_boatsOfKind_11 : decode cX0_boatsOfKind 11 = .ok (.getfield 19, 3) := by decide +kernel
theorem dX0_boatsOfKind_14 : decode cX0_boatsOfKind 14 = .ok (.iload_n 3, 1) := by decide +kernel
theorem dX0_boatsOfKind_15 : decode cX0_boatsOfKind 15 = .ok (.iaload, 1) := by decide +kernel
theorem dX0_boatsOfKind_16 : decode cX0_boatsOfKind 16 = .ok (.ifCond .le 16, 3) := by decide +kernel
theorem dX0_boatsOfKind_19 : decode cX0_boatsOfKind 19 = .ok (.aload_n 0, 1) := by decide +kernel
theorem dX0_boatsOfKind_20 : decode cX0_boatsOfKind 20 = .ok (.getfield 15, 3) := by decide +kernel
theorem dX0_boatsOfKind_23 : decode cX0_boatsOfKind 23 = .ok (.iload_n 3, 1) := by decide +kernel
theorem dX0_boatsOfKind_24 : decode cX0_boatsOfKind 24 = .ok (.iaload, 1) := by decide +kernel
theorem dX0_boatsOfKind_25 : decode cX0_boatsOfKind 25 = .ok (.iload_n 1, 1) := by decide +kernel
theorem dX0_boatsOfKind_26 : decode cX0_boatsOfKind 26 = .ok (.if_icmp .ne 6, 3) := by decide +kernel
theorem dX0_boatsOfKind_29 : decode cX0_boatsOfKind 29 = .ok (.iinc 2 1, 3) := by decide +kernel
theorem dX0_boatsOfKind_32 : decode cX0_boatsOfKind 32 = .ok (.iinc 3 1, 3) := by decide +kernel
theorem dX0_boatsOfKind_35 : decode cX0_boatsOfKind 35 = .ok (.goto (-31), 3) := by decide +kernel
theorem dX0_boatsOfKind_38 : decode cX0_boatsOfKind 38 = .ok (.iload_n 2, 1) := by decide +kernel
theorem dX0_boatsOfKind_39 : decode cX0_boatsOfKind 39 = .ok (.ireturn, 1) := by decide +kernel
set_option maxRecDepth 20000 in
theorem ggX0_units_X0_unitsAs : GoodIn wsX0_units wsX0_unitsAs := goodIn_r _ [6, 7, 8, 9, 10, 11, 12, 13, 14, 15] (by decide +kernel) (by decide +kernel)
set_option maxRecDepth 20000 in
theorem gX0_units_X0_unitsAs : GoodIn wsX0_units (wsV RX0 91 RX0 yX0_unitsAs wsX0_unitsAs) := goodIn_app (goodIn_of _ (by decide +kernel)) ggX0_units_X0_unitsAs
theorem dX0_units_0 : decode cX0_units 0 = .ok (.iconst 0, 1) := by decide +kernel
theorem dX0_units_1 : decode cX0_units 1 = .ok (.istore_n 1, 1) := by decide +kernel
theorem dX0_units_2 : decode cX0_units 2 = .ok (.iconst 0, 1) := by decide +kernel
theorem dX0_units_3 : decode cX0_units 3 = .ok (.istore_n 2, 1) := by decide +kernel
theorem dX0_units_4 : decode cX0_units 4 = .ok (.iload_n 2, 1) := by decide +kernel
theorem dX0_units_5 : decode cX0_units 5 = .ok (.bipush 8, 2) := by decide +kernel
theorem dX0_units_7 : decode cX0_units 7 = .ok (.if_icmp .ge 23, 3) := by decide +kernel
theorem dX0_units_10 : decode cX0_units 10 = .ok (.iload_n 1, 1) := by decide +kernel
theorem dX0_units_11 : decode cX0_units 11 = .ok (.aload_n 0, 1) := by decide +kernel
theorem dX0_units_12 : decode cX0_units 12 = .ok (.iload_n 2, 1) := by decide +kernel
theorem dX0_units_13 : decode cX0_units 13 = .ok (.aload_n 0, 1) := by decide +kernel
theorem dX0_units_14 : decode cX0_units 14 = .ok (.getfield 15, 3) := by decide +kernel
theorem dX0_units_17 : decode cX0_units 17 = .ok (.iload_n 2, 1) := by decide +kernel
theorem dX0_units_18 : decode cX0_units 18 = .ok (.iaload, 1) := by decide +kernel
theorem dX0_units_19 : decode cX0_units 19 = .ok (.invokevirtual 91, 3) := by decide +kernel
theorem dX0_units_22 : decode cX0_units 22 = .ok (.iadd, 1) := by decide +kernel
theorem dX0_units_23 : decode cX0_units 23 = .ok (.istore_n 1, 1) := by decide +kernel
theorem dX0_units_24 : decode cX0_units 24 = .ok (.iinc 2 1, 3) := by decide +kernel
theorem dX0_units_27 : decode cX0_units 27 = .ok (.goto (-23), 3) := by decide +kernel
theorem dX0_units_30 : decode cX0_units 30 = .ok (.iload_n 1, 1) := by decide +kernel
theorem dX0_units_31 : decode cX0_units 31 = .ok (.ireturn, 1) := by decide +kernel
set_option maxRecDepth 20000 in
theorem ggX0_bestUnits_X0_bestKind : GoodIn wsX0_bestUnits wsX0_bestKind := goodIn_r _ [5, 6, 7, 8, 4, 9, 10, 11, 12, 13, 14, 15, 16, 17, 18, 19, 20, 21, 22] (by decide +kernel) (by decide +kernel)
set_option maxRecDepth 20000 in
theorem gX0_bestUnits_X0_bestKind : GoodIn wsX0_bestUnits (wsV RX0 88 RX0 yX0_bestKind wsX0_bestKind) := goodIn_app (goodIn_of _ (by decide +kernel)) ggX0_bestUnits_X0_bestKind
set_option maxRecDepth 20000 in
theorem ggX0_bestUnits_X0_unitsAs : GoodIn wsX0_bestUnits wsX0_unitsAs := goodIn_r _ [15, 10, 11, 16, 17, 18, 19, 20, 21, 22] (by decide +kernel) (by decide +kernel)
set_option maxRecDepth 20000 in
theorem gX0_bestUnits_X0_unitsAs : GoodIn wsX0_bestUnits (wsV RX0 91 RX0 yX0_unitsAs wsX0_unitsAs) := goodIn_app (goodIn_of _ (by decide +kernel)) ggX0_bestUnits_X0_unitsAs
theorem dX0_bestUnits_0 : decode cX0_bestUnits 0 = .ok (.iconst 0, 1) := by decide +kernel
theorem dX0_bestUnits_1 : decode cX0_bestUnits 1 = .ok (.istore_n 1, 1) := by decide +kernel
theorem dX0_bestUnits_2 : decode cX0_bestUnits 2 = .ok (.iconst 0, 1) := by decide +kernel
theorem dX0_bestUnits_3 : decode cX0_bestUnits 3 = .ok (.istore_n 2, 1) := by decide +kernel
theorem dX0_bestUnits_4 : decode cX0_bestUnits 4 = .ok (.iload_n 2, 1) := by decide +kernel
theorem dX0_bestUnits_5 : decode cX0_bestUnits 5 = .ok (.bipush 8, 2) := by decide +kernel
theorem dX0_bestUnits_7 : decode cX0_bestUnits 7 = .ok (.if_icmp .ge 22, 3) := by decide +kernel
theorem dX0_bestUnits_10 : decode cX0_bestUnits 10 = .ok (.iload_n 1, 1) := by decide +kernel
theorem dX0_bestUnits_11 : decode cX0_bestUnits 11 = .ok (.aload_n 0, 1) := by decide +kernel
theorem dX0_bestUnits_12 : decode cX0_bestUnits 12 = .ok (.iload_n 2, 1) := by decide +kernel
theorem dX0_bestUnits_13 : decode cX0_bestUnits 13 = .ok (.aload_n 0, 1) := by decide +kernel
theorem dX0_bestUnits_14 : decode cX0_bestUnits 14 = .ok (.iload_n 2, 1) := by decide +kernel
theorem dX0_bestUnits_15 : decode cX0_bestUnits 15 = .ok (.invokevirtual 88, 3) := by decide +kernel
theorem dX0_bestUnits_18 : decode cX0_bestUnits 18 = .ok (.invokevirtual 91, 3) := by decide +kernel
theorem dX0_bestUnits_21 : decode cX0_bestUnits 21 = .ok (.iadd, 1) := by decide +kernel
theorem dX0_bestUnits_22 : decode cX0_bestUnits 22 = .ok (.istore_n 1, 1) := by decide +kernel
theorem dX0_bestUnits_23 : decode cX0_bestUnits 23 = .ok (.iinc 2 1, 3) := by decide +kernel
theorem dX0_bestUnits_26 : decode cX0_bestUnits 26 = .ok (.goto (-22), 3) := by decide +kernel
theorem dX0_bestUnits_29 : decode cX0_bestUnits 29 = .ok (.iload_n 1, 1) := by decide +kernel
theorem dX0_bestUnits_30 : decode cX0_bestUnits 30 = .ok (.ireturn, 1) := by decide +kernel
theorem dX0_allRuns_0 : decode cX0_allRuns 0 = .ok (.iconst 0, 1) := by decide +kernel
theorem dX0_allRuns_1 : decode cX0_allRuns 1 = .ok (.istore_n 1, 1) := by decide +kernel
theorem dX0_allRuns_2 : decode cX0_allRuns 2 = .ok (.iconst 0, 1) := by decide +kernel
theorem dX0_allRuns_3 : decode cX0_allRuns 3 = .ok (.istore_n 2, 1) := by decide +kernel
theorem dX0_allRuns_4 : decode cX0_allRuns 4 = .ok (.iload_n 2, 1) := by decide +kernel
theorem dX0_allRuns_5 : decode cX0_allRuns 5 = .ok (.bipush 8, 2) := by decide +kernel
theorem dX0_allRuns_7 : decode cX0_allRuns 7 = .ok (.if_icmp .ge 18, 3) := by decide +kernel
theorem dX0_allRuns_10 : decode cX0_allRuns 10 = .ok (.iload_n 1, 1) := by decide +kernel
theorem dX0_allRuns_11 : decode cX0_allRuns 11 = .ok (.aload_n 0, 1) := by decide +kernel
theorem dX0_allRuns_12 : decode cX0_allRuns 12 = .ok (.getfield 22, 3) := by decide +kernel
theorem dX0_allRuns_15 : decode cX0_allRuns 15 = .ok (.iload_n 2, 1) := by decide +kernel
theorem dX0_allRuns_16 : decode cX0_allRuns 16 = .ok (.iaload, 1) := by decide +kernel
theorem dX0_allRuns_17 : decode cX0_allRuns 17 = .ok (.iadd, 1) := by decide +kernel
theorem dX0_allRuns_18 : decode cX0_allRuns 18 = .ok (.istore_n 1, 1) := by decide +kernel
theorem dX0_allRuns_19 : decode cX0_allRuns 19 = .ok (.iinc 2 1, 3) := by decide +kernel
theorem dX0_allRuns_22 : decode cX0_allRuns 22 = .ok (.goto (-18), 3) := by decide +kernel
theorem dX0_allRuns_25 : decode cX0_allRuns 25 = .ok (.iload_n 1, 1) := by decide +kernel
theorem dX0_allRuns_26 : decode cX0_allRuns 26 = .ok (.ireturn, 1) := by decide +kernel
set_option maxRecDepth 20000 in
theorem ggX0_numbersBelow_X4_isNumber : GoodIn wsX0_numbersBelow wsX4_isNumber := goodIn_r _ [4] (by decide +kernel) (by decide +kernel)
set_option maxRecDepth 20000 in
theorem gX0_numbersBelow_X4_isNumber_n54 : GoodIn wsX0_numbersBelow (wsX4_isNumber) := ggX0_numbersBelow_X4_isNumber
set_option maxRecDepth 20000 in
theorem ggX0_numbersBelow_J13_bitCount_95d88 : GoodIn wsX0_numbersBelow wsJ13_bitCount_95d88 := goodIn_r _ [8, 9, 10, 11] (by decide +kernel) (by decide +kernel)
set_option maxRecDepth 20000 in
theorem gX0_numbersBelow_J13_bitCount_95d88 : GoodIn wsX0_numbersBelow (va_wsS RX0 104 yJ13_bitCount_95d88 wsJ13_bitCount_95d88) := goodIn_app (goodIn_of _ (by decide +kernel)) ggX0_numbersBelow_J13_bitCount_95d88
theorem dX0_numbersBelow_0 : decode cX0_numbersBelow 0 = .ok (.iload_n 1, 1) := by decide +kernel
theorem dX0_numbersBelow_1 : decode cX0_numbersBelow 1 = .ok (.invokestatic 54, 3) := by decide +kernel
theorem dX0_numbersBelow_4 : decode cX0_numbersBelow 4 = .ok (.ifCond .ne 5, 3) := by decide +kernel
theorem dX0_numbersBelow_7 : decode cX0_numbersBelow 7 = .ok (.iconst 0, 1) := by decide +kernel
theorem dX0_numbersBelow_8 : decode cX0_numbersBelow 8 = .ok (.ireturn, 1) := by decide +kernel
theorem dX0_numbersBelow_9 : decode cX0_numbersBelow 9 = .ok (.iload_n 1, 1) := by decide +kernel
theorem dX0_numbersBelow_10 : decode cX0_numbersBelow 10 = .ok (.bipush 64, 2) := by decide +kernel
theorem dX0_numbersBelow_12 : decode cX0_numbersBelow 12 = .ok (.idiv, 1) := by decide +kernel
theorem dX0_numbersBelow_13 : decode cX0_numbersBelow 13 = .ok (.istore_n 2, 1) := by decide +kernel
theorem dX0_numbersBelow_14 : decode cX0_numbersBelow 14 = .ok (.iconst 0, 1) := by decide +kernel
theorem dX0_numbersBelow_15 : decode cX0_numbersBelow 15 = .ok (.istore_n 3, 1) := by decide +kernel
theorem dX0_numbersBelow_16 : decode cX0_numbersBelow 16 = .ok (.iconst 0, 1) := by decide +kernel
theorem dX0_numbersBelow_17 : decode cX0_numbersBelow 17 = .ok (.istore 4, 2) := by decide +kernel
theorem dX0_numbersBelow_19 : decode cX0_numbersBelow 19 = .ok (.iload 4, 2) := by decide +kernel
theorem dX0_numbersBelow_21 : decode cX0_numbersBelow 21 = .ok (.iload_n 2, 1) := by decide +kernel
theorem dX0_numbersBelow_22 : decode cX0_numbersBelow 22 = .ok (.if_icmp .ge 22, 3) := by decide +kernel
theorem dX0_numbersBelow_25 : decode cX0_numbersBelow 25 = .ok (.iload_n 3, 1) := by decide +kernel
theorem dX0_numbersBelow_26 : decode cX0_numbersBelow 26 = .ok (.aload_n 0, 1) := by decide +kernel
theorem dX0_numbersBelow_27 : decode cX0_numbersBelow 27 = .ok (.getfield 9, 3) := by decide +kernel
theorem dX0_numbersBelow_30 : decode cX0_numbersBelow 30 = .ok (.iload 4, 2) := by decide +kernel
theorem dX0_numbersBelow_32 : decode cX0_numbersBelow 32 = .ok (.laload, 1) := by decide +kernel
theorem dX0_numbersBelow_33 : decode cX0_numbersBelow 33 = .ok (.invokestatic 104, 3) := by decide +kernel
theorem dX0_numbersBelow_36 : decode cX0_numbersBelow 36 = .ok (.iadd, 1) := by decide +kernel
theorem dX0_numbersBelow_37 : decode cX0_numbersBelow 37 = .ok (.istore_n 3, 1) := by decide +kernel
theorem dX0_numbersBelow_38 : decode cX0_numbersBelow 38 = .ok (.iinc 4 1, 3) := by decide +kernel
theorem dX0_numbersBelow_41 : decode cX0_numbersBelow 41 = .ok (.goto (-22), 3) := by decide +kernel
theorem dX0_numbersBelow_44 : decode cX0_numbersBelow 44 = .ok (.lconst 1, 1) := by decide +kernel
theorem dX0_numbersBelow_45 : decode cX0_numbersBelow 45 = .ok (.iload_n 1, 1) := by decide +kernel
theorem dX0_numbersBelow_46 : decode cX0_numbersBelow 46 = .ok (.bipush 64, 2) := by decide +kernel
theorem dX0_numbersBelow_48 : decode cX0_numbersBelow 48 = .ok (.irem, 1) := by decide +kernel
theorem dX0_numbersBelow_49 : decode cX0_numbersBelow 49 = .ok (.lshl, 1) := by decide +kernel
theorem dX0_numbersBelow_50 : decode cX0_numbersBelow 50 = .ok (.lconst 1, 1) := by decide +kernel
theorem dX0_numbersBelow_51 : decode cX0_numbersBelow 51 = .ok (.lsub, 1) := by decide +kernel
theorem dX0_numbersBelow_52 : decode cX0_numbersBelow 52 = .ok (.lstore 4, 2) := by decide +kernel
theorem dX0_numbersBelow_54 : decode cX0_numbersBelow 54 = .ok (.iload_n 3, 1) := by decide +kernel
theorem dX0_numbersBelow_55 : decode cX0_numbersBelow 55 = .ok (.aload_n 0, 1) := by decide +kernel
theorem dX0_numbersBelow_56 : decode cX0_numbersBelow 56 = .ok (.getfield 9, 3) := by decide +kernel
theorem dX0_numbersBelow_59 : decode cX0_numbersBelow 59 = .ok (.iload_n 2, 1) := by decide +kernel
theorem dX0_numbersBelow_60 : decode cX0_numbersBelow 60 = .ok (.laload, 1) := by decide +kernel
theorem dX0_numbersBelow_61 : decode cX0_numbersBelow 61 = .ok (.lload 4, 2) := by decide +kernel
theorem dX0_numbersBelow_63 : decode cX0_numbersBelow 63 = .ok (.land, 1) := by decide +kernel
theorem dX0_numbersBelow_64 : decode cX0_numbersBelow 64 = .ok (.invokestatic 104, 3) := by decide +kernel
theorem dX0_numbersBelow_67 : decode cX0_numbersBelow 67 = .ok (.iadd, 1) := by decide +kernel
theorem dX0_numbersBelow_68 : decode cX0_numbersBelow 68 = .ok (.ireturn, 1) := by decide +kernel
set_option maxRecDepth 20000 in
theorem ggX0_numberAt_J13_bitCount_95d88 : GoodIn wsX0_numberAt wsJ13_bitCount_95d88 := goodIn_r _ [5, 6, 7, 8] (by decide +kernel) (by decide +kernel)
set_option maxRecDepth 20000 in
theorem gX0_numberAt_J13_bitCount_95d88 : GoodIn wsX0_numberAt (va_wsS RX0 104 yJ13_bitCount_95d88 wsJ13_bitCount_95d88) := goodIn_app (goodIn_of _ (by decide +kernel)) ggX0_numberAt_J13_bitCount_95d88
set_option maxRecDepth 20000 in
theorem ggX0_numberAt_X0_placeOfBit : GoodIn wsX0_numberAt wsX0_placeOfBit := goodIn_r _ [12, 2, 3, 4, 5, 6, 7, 8] (by decide +kernel) (by decide +kernel)
set_option maxRecDepth 20000 in
theorem gX0_numberAt_X0_placeOfBit : GoodIn wsX0_numberAt (va_wsS RX0 110 yX0_placeOfBit wsX0_placeOfBit) := goodIn_app (goodIn_of _ (by decide +kernel)) ggX0_numberAt_X0_placeOfBit
theorem dX0_numberAt_0 : decode cX0_numberAt 0 = .ok (.iload_n 1, 1) := by decide +kernel
theorem dX0_numberAt_1 : decode cX0_numberAt 1 = .ok (.ifCond .ge 6, 3) := by decide +kernel
theorem dX0_numberAt_4 : decode cX0_numberAt 4 = .ok (.bipush (-5), 2) := by decide +kernel
theorem dX0_numberAt_6 : decode cX0_numberAt 6 = .ok (.ireturn, 1) := by decide +kernel
theorem dX0_numberAt_7 : decode cX0_numberAt 7 = .ok (.iload_n 1, 1) := by decide +kernel
theorem dX0_numberAt_8 : decode cX0_numberAt 8 = .ok (.istore_n 2, 1) := by decide +kernel
theorem dX0_numberAt_9 : decode cX0_numberAt 9 = .ok (.iconst 0, 1) := by decide +kernel
theorem dX0_numberAt_10 : decode cX0_numberAt 10 = .ok (.istore_n 3, 1) := by decide +kernel
theorem dX0_numberAt_11 : decode cX0_numberAt 11 = .ok (.iload_n 3, 1) := by decide +kernel
theorem dX0_numberAt_12 : decode cX0_numberAt 12 = .ok (.bipush 32, 2) := by decide +kernel
theorem dX0_numberAt_14 : decode cX0_numberAt 14 = .ok (.if_icmp .ge 47, 3) := by decide +kernel
theorem dX0_numberAt_17 : decode cX0_numberAt 17 = .ok (.aload_n 0, 1) := by decide +kernel
theorem dX0_numberAt_18 : decode cX0_numberAt 18 = .ok (.getfield 9, 3) := by decide +kernel
theorem dX0_numberAt_21 : decode cX0_numberAt 21 = .ok (.iload_n 3, 1) := by decide +kernel
theorem dX0_numberAt_22 : decode cX0_numberAt 22 = .ok (.laload, 1) := by decide +kernel
theorem dX0_numberAt_23 : decode cX0_numberAt 23 = .ok (.invokestatic 104, 3) := by decide +kernel
theorem dX0_numberAt_26 : decode cX0_numberAt 26 = .ok (.istore 4, 2) := by decide +kernel
theorem dX0_numberAt_28 : decode cX0_numberAt 28 = .ok (.iload_n 2, 1) := by decide +kernel
theorem dX0_numberAt_29 : decode cX0_numberAt 29 = .ok (.iload 4, 2) := by decide +kernel
theorem dX0_numberAt_31 : decode cX0_numberAt 31 = .ok (.if_icmp .ge 19, 3) := by decide +kernel
theorem dX0_numberAt_34 : decode cX0_numberAt 34 = .ok (.iload_n 3, 1) := by decide +kernel
theorem dX0_numberAt_35 : decode cX0_numberAt 35 = .ok (.bipush 64, 2) := by decide +kernel
theorem dX0_numberAt_37 : decode cX0_numberAt 37 = .ok (.imul, 1) := by decide +kernel
theorem dX0_numberAt_38 : decode cX0_numberAt 38 = .ok (.aload_n 0, 1) := by decide +kernel
theorem dX0_numberAt_39 : decode cX0_numberAt 39 = .ok (.getfield 9, 3) := by decide +kernel
theorem dX0_numberAt_42 : decode cX0_numberAt 42 = .ok (.iload_n 3, 1) := by decide +kernel
theorem dX0_numberAt_43 : decode cX0_numberAt 43 = .ok (.laload, 1) := by decide +kernel
theorem dX0_numberAt_44 : decode cX0_numberAt 44 = .ok (.iload_n 2, 1) := by decide +kernel
theorem dX0_numberAt_45 : decode cX0_numberAt 45 = .ok (.invokestatic 110, 3) := by decide +kernel
theorem dX0_numberAt_48 : decode cX0_numberAt 48 = .ok (.iadd, 1) := by decide +kernel
theorem dX0_numberAt_49 : decode cX0_numberAt 49 = .ok (.ireturn, 1) := by decide +kernel
theorem dX0_numberAt_50 : decode cX0_numberAt 50 = .ok (.iload_n 2, 1) := by decide +kernel
theorem dX0_numberAt_51 : decode cX0_numberAt 51 = .ok (.iload 4, 2) := by decide +kernel
theorem dX0_numberAt_53 : decode cX0_numberAt 53 = .ok (.isub, 1) := by decide +kernel
theorem dX0_numberAt_54 : decode cX0_numberAt 54 = .ok (.istore_n 2, 1) := by decide +kernel
theorem dX0_numberAt_55 : decode cX0_numberAt 55 = .ok (.iinc 3 1, 3) := by decide +kernel
theorem dX0_numberAt_58 : decode cX0_numberAt 58 = .ok (.goto (-47), 3) := by decide +kernel
theorem dX0_numberAt_61 : decode cX0_numberAt 61 = .ok (.bipush (-5), 2) := by decide +kernel
theorem dX0_numberAt_63 : decode cX0_numberAt 63 = .ok (.ireturn, 1) := by decide +kernel
set_option maxRecDepth 20000 in
theorem ggX0_placeOfBit_J13_bitCount_95d88 : GoodIn wsX0_placeOfBit wsJ13_bitCount_95d88 := goodIn_r _ [4, 5, 6, 7] (by decide +kernel) (by decide +kernel)
set_option maxRecDepth 20000 in
theorem gX0_placeOfBit_J13_bitCount_95d88 : GoodIn wsX0_placeOfBit (va_wsS RX0 104 yJ13_bitCount_95d88 wsJ13_bitCount_95d88) := goodIn_app (goodIn_of _ (by decide +kernel)) ggX0_placeOfBit_J13_bitCount_95d88
theorem dX0_placeOfBit_0 : decode cX0_placeOfBit 0 = .ok (.lload_n 0, 1) := by decide +kernel
theorem dX0_placeOfBit_1 : decode cX0_placeOfBit 1 = .ok (.lstore_n 3, 1) := by decide +kernel
theorem dX0_placeOfBit_2 : decode cX0_placeOfBit 2 = .ok (.iconst 0, 1) := by decide +kernel
theorem dX0_placeOfBit_3 : decode cX0_placeOfBit 3 = .ok (.istore 5, 2) := by decide +kernel
theorem dX0_placeOfBit_5 : decode cX0_placeOfBit 5 = .ok (.iload 5, 2) := by decide +kernel
theorem dX0_placeOfBit_7 : decode cX0_placeOfBit 7 = .ok (.iload_n 2, 1) := by decide +kernel
theorem dX0_placeOfBit_8 : decode cX0_placeOfBit 8 = .ok (.if_icmp .ge 15, 3) := by decide +kernel
theorem dX0_placeOfBit_11 : decode cX0_placeOfBit 11 = .ok (.lload_n 3, 1) := by decide +kernel
theorem dX0_placeOfBit_12 : decode cX0_placeOfBit 12 = .ok (.lload_n 3, 1) := by decide +kernel
theorem dX0_placeOfBit_13 : decode cX0_placeOfBit 13 = .ok (.lconst 1, 1) := by decide +kernel
theorem dX0_placeOfBit_14 : decode cX0_placeOfBit 14 = .ok (.lsub, 1) := by decide +kernel
theorem dX0_placeOfBit_15 : decode cX0_placeOfBit 15 = .ok (.land, 1) := by decide +kernel
theorem dX0_placeOfBit_16 : decode cX0_placeOfBit 16 = .ok (.lstore_n 3, 1) := by decide +kernel
theorem dX0_placeOfBit_17 : decode cX0_placeOfBit 17 = .ok (.iinc 5 1, 3) := by decide +kernel
theorem dX0_placeOfBit_20 : decode cX0_placeOfBit 20 = .ok (.goto (-15), 3) := by decide +kernel
theorem dX0_placeOfBit_23 : decode cX0_placeOfBit 23 = .ok (.lload_n 3, 1) := by decide +kernel
theorem dX0_placeOfBit_24 : decode cX0_placeOfBit 24 = .ok (.lload_n 3, 1) := by decide +kernel
theorem dX0_placeOfBit_25 : decode cX0_placeOfBit 25 = .ok (.lneg, 1) := by decide +kernel
theorem dX0_placeOfBit_26 : decode cX0_placeOfBit 26 = .ok (.land, 1) := by decide +kernel
theorem dX0_placeOfBit_27 : decode cX0_placeOfBit 27 = .ok (.lconst 1, 1) := by decide +kernel
theorem dX0_placeOfBit_28 : decode cX0_placeOfBit 28 = .ok (.lsub, 1) := by decide +kernel
theorem dX0_placeOfBit_29 : decode cX0_placeOfBit 29 = .ok (.invokestatic 104, 3) := by decide +kernel
theorem dX0_placeOfBit_32 : decode cX0_placeOfBit 32 = .ok (.ireturn, 1) := by decide +kernel
set_option maxRecDepth 20000 in
theorem ggX0_firstFrom_X0_numbersBelow : GoodIn wsX0_firstFrom wsX0_numbersBelow := goodIn_r _ [5, 6, 7, 8, 9, 10, 11, 12, 13, 14, 15, 16, 24, 25, 26, 27, 28, 29, 30] (by decide +kernel) (by decide +kernel)
set_option maxRecDepth 20000 in
theorem gX0_firstFrom_X0_numbersBelow : GoodIn wsX0_firstFrom (wsV RX0 114 RX0 yX0_numbersBelow wsX0_numbersBelow) := goodIn_app (goodIn_of _ (by decide +kernel)) ggX0_firstFrom_X0_numbersBelow
set_option maxRecDepth 20000 in
theorem ggX0_firstFrom_X0_numberAt : GoodIn wsX0_firstFrom wsX0_numberAt := goodIn_r _ [20, 6, 10, 11, 12, 13, 14, 15, 16, 21, 22, 4, 23, 24, 25, 26, 27, 28, 29, 30] (by decide +kernel) (by decide +kernel)
set_option maxRecDepth 20000 in
theorem gX0_firstFrom_X0_numberAt : GoodIn wsX0_firstFrom (wsV RX0 117 RX0 yX0_numberAt wsX0_numberAt) := goodIn_app (goodIn_of _ (by decide +kernel)) ggX0_firstFrom_X0_numberAt
theorem dX0_firstFrom_0 : decode cX0_firstFrom 0 = .ok (.aload_n 0, 1) := by decide +kernel
theorem dX0_firstFrom_1 : decode cX0_firstFrom 1 = .ok (.aload_n 0, 1) := by decide +kernel
theorem dX0_firstFrom_2 : decode cX0_firstFrom 2 = .ok (.iload_n 1, 1) := by decide +kernel
theorem dX0_firstFrom_3 : decode cX0_firstFrom 3 = .ok (.invokevirtual 114, 3) := by decide +kernel
theorem dX0_firstFrom_6 : decode cX0_firstFrom 6 = .ok (.invokevirtual 117, 3) := by decide +kernel
theorem dX0_firstFrom_9 : decode cX0_firstFrom 9 = .ok (.ireturn, 1) := by decide +kernel
set_option maxRecDepth 20000 in
theorem ggX0_firstGap_X0_holds : GoodIn wsX0_firstGap wsX0_holds := goodIn_r _ [5, 6, 7, 8, 9, 10, 11, 12, 13, 14, 15, 16] (by decide +kernel) (by decide +kernel)
set_option maxRecDepth 20000 in
theorem gX0_firstGap_X0_holds : GoodIn wsX0_firstGap (wsV RX0 58 RX0 yX0_holds wsX0_holds) := goodIn_app (goodIn_of _ (by decide +kernel)) ggX0_firstGap_X0_holds
theorem dX0_firstGap_0 : decode cX0_firstGap 0 = .ok (.iconst 0, 1) := by decide +kernel
theorem dX0_firstGap_1 : decode cX0_firstGap 1 = .ok (.istore_n 2, 1) := by decide +kernel
theorem dX0_firstGap_2 : decode cX0_firstGap 2 = .ok (.iconst 0, 1) := by decide +kernel
theorem dX0_firstGap_3 : decode cX0_firstGap 3 = .ok (.istore_n 3, 1) := by decide +kernel
theorem dX0_firstGap_4 : decode cX0_firstGap 4 = .ok (.iload_n 3, 1) := by decide +kernel
theorem dX0_firstGap_5 : decode cX0_firstGap 5 = .ok (.sipush 2048, 3) := by decide +kernel
theorem dX0_firstGap_8 : decode cX0_firstGap 8 = .ok (.if_icmp .ge 35, 3) := by decide +kernel
theorem dX0_firstGap_11 : decode cX0_firstGap 11 = .ok (.aload_n 0, 1) := by decide +kernel
theorem dX0_firstGap_12 : decode cX0_firstGap 12 = .ok (.iload_n 3, 1) := by decide +kernel
theorem dX0_firstGap_13 : decode cX0_firstGap 13 = .ok (.invokevirtual 58, 3) := by decide +kernel
theorem dX0_firstGap_16 : decode cX0_firstGap 16 = .ok (.ifCond .eq 10, 3) := by decide +kernel
theorem dX0_firstGap_19 : decode cX0_firstGap 19 = .ok (.iload_n 3, 1) := by decide +kernel
theorem dX0_firstGap_20 : decode cX0_firstGap 20 = .ok (.iconst 1, 1) := by decide +kernel
theorem dX0_firstGap_21 : decode cX0_firstGap 21 = .ok (.iadd, 1) := by decide +kernel
theorem dX0_firstGap_22 : decode cX0_firstGap 22 = .ok (.istore_n 2, 1) := by decide +kernel
theorem dX0_firstGap_23 : decode cX0_firstGap 23 = .ok (.goto 14, 3) := by decide +kernel
theorem dX0_firstGap_26 : decode cX0_firstGap 26 = .ok (.iload_n 3, 1) := by decide +kernel
theorem dX0_firstGap_27 : decode cX0_firstGap 27 = .ok (.iload_n 2, 1) := by decide +kernel
theorem dX0_firstGap_28 : decode cX0_firstGap 28 = .ok (.isub, 1) := by decide +kernel
theorem dX0_firstGap_29 : decode cX0_firstGap 29 = .ok (.iconst 1, 1) := by decide +kernel
theorem dX0_firstGap_30 : decode cX0_firstGap 30 = .ok (.iadd, 1) := by decide +kernel
theorem dX0_firstGap_31 : decode cX0_firstGap 31 = .ok (.iload_n 1, 1) := by decide +kernel
theorem dX0_firstGap_32 : decode cX0_firstGap 32 = .ok (.if_icmp .lt 5, 3) := by decide +kernel
theorem dX0_firstGap_35 : decode cX0_firstGap 35 = .ok (.iload_n 2, 1) := by decide +kernel
theorem dX0_firstGap_36 : decode cX0_firstGap 36 = .ok (.ireturn, 1) := by decide +kernel
theorem dX0_firstGap_37 : decode cX0_firstGap 37 = .ok (.iinc 3 1, 3) := by decide +kernel
theorem dX0_firstGap_40 : decode cX0_firstGap 40 = .ok (.goto (-36), 3) := by decide +kernel
theorem dX0_firstGap_43 : decode cX0_firstGap 43 = .ok (.bipush (-5), 2) := by decide +kernel
theorem dX0_firstGap_45 : decode cX0_firstGap 45 = .ok (.ireturn, 1) := by decide +kernel
set_option maxRecDepth 20000 in
theorem ggX1_init_X0_init : GoodIn wsX1_init wsX0_init := goodIn_r _ [10, 11, 2, 3, 12, 13, 14, 15, 16, 17, 20, 21, 22, 23, 24, 25, 26] (by decide +kernel) (by decide +kernel)
set_option maxRecDepth 20000 in
theorem gX1_init_X0_init : GoodIn wsX1_init (wsX0_init) := ggX1_init_X0_init
theorem dX1_init_0 : decode cX1_init 0 = .ok (.aload_n 0, 1) := by decide +kernel
theorem dX1_init_1 : decode cX1_init 1 = .ok (.invokespecial 3, 3) := by decide +kernel
theorem dX1_init_4 : decode cX1_init 4 = .ok (.aload_n 0, 1) := by decide +kernel
theorem dX1_init_5 : decode cX1_init 5 = .ok (.bipush 6, 2) := by decide +kernel
theorem dX1_init_7 : decode cX1_init 7 = .ok (.anewarray 9, 3) := by decide +kernel
theorem dX1_init_10 : decode cX1_init 10 = .ok (.putfield 11, 3) := by decide +kernel
theorem dX1_init_13 : decode cX1_init 13 = .ok (.iconst 0, 1) := by decide +kernel
theorem dX1_init_14 : decode cX1_init 14 = .ok (.istore_n 1, 1) := by decide +kernel
theorem dX1_init_15 : decode cX1_init 15 = .ok (.iload_n 1, 1) := by decide +kernel
theorem dX1_init_16 : decode cX1_init 16 = .ok (.bipush 6, 2) := by decide +kernel
theorem dX1_init_18 : decode cX1_init 18 = .ok (.if_icmp .ge 22, 3) := by decide +kernel
theorem dX1_init_21 : decode cX1_init 21 = .ok (.aload_n 0, 1) := by decide +kernel
theorem dX1_init_22 : decode cX1_init 22 = .ok (.getfield 11, 3) := by decide +kernel
theorem dX1_init_25 : decode cX1_init 25 = .ok (.iload_n 1, 1) := by decide +kernel
theorem dX1_init_26 : decode cX1_init 26 = .ok (.new 9, 3) := by decide +kernel
theorem dX1_init_29 : decode cX1_init 29 = .ok (.dup, 1) := by decide +kernel
theorem dX1_init_30 : decode cX1_init 30 = .ok (.invokespecial 17, 3) := by decide +kernel
theorem dX1_init_33 : decode cX1_init 33 = .ok (.aastore, 1) := by decide +kernel
theorem dX1_init_34 : decode cX1_init 34 = .ok (.iinc 1 1, 3) := by decide +kernel
theorem dX1_init_37 : decode cX1_init 37 = .ok (.goto (-22), 3) := by decide +kernel
theorem dX1_init_40 : decode cX1_init 40 = .ok (.return_, 1) := by decide +kernel
set_option maxRecDepth 20000 in
theorem ggX1_copyFrom_X0_copyFrom : GoodIn wsX1_copyFrom wsX0_copyFrom := goodIn_r _ [7, 8, 9, 10, 11, 12, 13, 14, 15, 16, 17, 18, 21, 22, 23, 24, 25, 26, 27] (by decide +kernel) (by decide +kernel)
set_option maxRecDepth 20000 in
theorem gX1_copyFrom_X0_copyFrom : GoodIn wsX1_copyFrom (wsV RX1 22 RX0 yX0_copyFrom wsX0_copyFrom) := goodIn_app (goodIn_of _ (by decide +kernel)) ggX1_copyFrom_X0_copyFrom
theorem dX1_copyFrom_0 : decode cX1_copyFrom 0 = .ok (.aload_n 0, 1) := by decide +kernel
theorem dX1_copyFrom_1 : decode cX1_copyFrom 1 = .ok (.aload_n 1, 1) := by decide +kernel
theorem dX1_copyFrom_2 : decode cX1_copyFrom 2 = .ok (.getfield 18, 3) := by decide +kernel
theorem dX1_copyFrom_5 : decode cX1_copyFrom 5 = .ok (.putfield 18, 3) := by decide +kernel
theorem dX1_copyFrom_8 : decode cX1_copyFrom 8 = .ok (.iconst 0, 1) := by decide +kernel
theorem dX1_copyFrom_9 : decode cX1_copyFrom 9 = .ok (.istore_n 2, 1) := by decide +kernel
theorem dX1_copyFrom_10 : decode cX1_copyFrom 10 = .ok (.iload_n 2, 1) := by decide +kernel
theorem dX1_copyFrom_11 : decode cX1_copyFrom 11 = .ok (.aload_n 0, 1) := by decide +kernel
theorem dX1_copyFrom_12 : decode cX1_copyFrom 12 = .ok (.getfield 18, 3) := by decide +kernel
theorem dX1_copyFrom_15 : decode cX1_copyFrom 15 = .ok (.if_icmp .ge 24, 3) := by decide +kernel
theorem dX1_copyFrom_18 : decode cX1_copyFrom 18 = .ok (.aload_n 0, 1) := by decide +kernel
theorem dX1_copyFrom_19 : decode cX1_copyFrom 19 = .ok (.getfield 11, 3) := by decide +kernel
theorem dX1_copyFrom_22 : decode cX1_copyFrom 22 = .ok (.iload_n 2, 1) := by decide +kernel
theorem dX1_copyFrom_23 : decode cX1_copyFrom 23 = .ok (.aaload, 1) := by decide +kernel
theorem dX1_copyFrom_24 : decode cX1_copyFrom 24 = .ok (.aload_n 1, 1) := by decide +kernel
theorem dX1_copyFrom_25 : decode cX1_copyFrom 25 = .ok (.getfield 11, 3) := by decide +kernel
theorem dX1_copyFrom_28 : decode cX1_copyFrom 28 = .ok (.iload_n 2, 1) := by decide +kernel
theorem dX1_copyFrom_29 : decode cX1_copyFrom 29 = .ok (.aaload, 1) := by decide +kernel
theorem dX1_copyFrom_30 : decode cX1_copyFrom 30 = .ok (.invokevirtual 22, 3) := by decide +kernel
theorem dX1_copyFrom_33 : decode cX1_copyFrom 33 = .ok (.iinc 2 1, 3) := by decide +kernel
theorem dX1_copyFrom_36 : decode cX1_copyFrom 36 = .ok (.goto (-26), 3) := by decide +kernel
theorem dX1_copyFrom_39 : decode cX1_copyFrom 39 = .ok (.return_, 1) := by decide +kernel
set_option maxRecDepth 20000 in
theorem ggX1_open_X0_begin : GoodIn wsX1_open wsX0_begin := goodIn_r _ [7, 8, 9, 10, 11, 12, 13, 6, 14, 15, 16, 17, 18, 19, 20, 21, 22, 23, 24, 25, 28, 29, 30, 31, 32, 33, 34] (by decide +kernel) (by decide +kernel)
set_option maxRecDepth 20000 in
theorem gX1_open_X0_begin : GoodIn wsX1_open (wsV RX1 26 RX0 yX0_begin wsX0_begin) := goodIn_app (goodIn_of _ (by decide +kernel)) ggX1_open_X0_begin
theorem dX1_open_0 : decode cX1_open 0 = .ok (.aload_n 0, 1) := by decide +kernel
theorem dX1_open_1 : decode cX1_open 1 = .ok (.getfield 18, 3) := by decide +kernel
theorem dX1_open_4 : decode cX1_open 4 = .ok (.bipush 6, 2) := by decide +kernel
theorem dX1_open_6 : decode cX1_open 6 = .ok (.if_icmp .lt 6, 3) := by decide +kernel
theorem dX1_open_9 : decode cX1_open 9 = .ok (.bipush (-3), 2) := by decide +kernel
theorem dX1_open_11 : decode cX1_open 11 = .ok (.ireturn, 1) := by decide +kernel
theorem dX1_open_12 : decode cX1_open 12 = .ok (.aload_n 0, 1) := by decide +kernel
theorem dX1_open_13 : decode cX1_open 13 = .ok (.getfield 11, 3) := by decide +kernel
theorem dX1_open_16 : decode cX1_open 16 = .ok (.aload_n 0, 1) := by decide +kernel
theorem dX1_open_17 : decode cX1_open 17 = .ok (.getfield 18, 3) := by decide +kernel
theorem dX1_open_20 : decode cX1_open 20 = .ok (.aaload, 1) := by decide +kernel
theorem dX1_open_21 : decode cX1_open 21 = .ok (.iload_n 1, 1) := by decide +kernel
theorem dX1_open_22 : decode cX1_open 22 = .ok (.invokevirtual 26, 3) := by decide +kernel
theorem dX1_open_25 : decode cX1_open 25 = .ok (.aload_n 0, 1) := by decide +kernel
theorem dX1_open_26 : decode cX1_open 26 = .ok (.dup, 1) := by decide +kernel
theorem dX1_open_27 : decode cX1_open 27 = .ok (.getfield 18, 3) := by decide +kernel
theorem dX1_open_30 : decode cX1_open 30 = .ok (.iconst 1, 1) := by decide +kernel
theorem dX1_open_31 : decode cX1_open 31 = .ok (.iadd, 1) := by decide +kernel
theorem dX1_open_32 : decode cX1_open 32 = .ok (.putfield 18, 3) := by decide +kernel
theorem dX1_open_35 : decode cX1_open 35 = .ok (.aload_n 0, 1) := by decide +kernel
theorem dX1_open_36 : decode cX1_open 36 = .ok (.getfield 18, 3) := by decide +kernel
theorem dX1_open_39 : decode cX1_open 39 = .ok (.iconst 1, 1) := by decide +kernel
theorem dX1_open_40 : decode cX1_open 40 = .ok (.isub, 1) := by decide +kernel
theorem dX1_open_41 : decode cX1_open 41 = .ok (.ireturn, 1) := by decide +kernel
theorem dX1_setsAtSea_0 : decode cX1_setsAtSea 0 = .ok (.iconst 0, 1) := by decide +kernel
theorem dX1_setsAtSea_1 : decode cX1_setsAtSea 1 = .ok (.istore_n 1, 1) := by decide +kernel
theorem dX1_setsAtSea_2 : decode cX1_setsAtSea 2 = .ok (.iconst 0, 1) := by decide +kernel
theorem dX1_setsAtSea_3 : decode cX1_setsAtSea 3 = .ok (.istore_n 2, 1) := by decide +kernel
theorem dX1_setsAtSea_4 : decode cX1_setsAtSea 4 = .ok (.iload_n 2, 1) := by decide +kernel
theorem dX1_setsAtSea_5 : decode cX1_setsAtSea 5 = .ok (.aload_n 0, 1) := by decide +kernel
theorem dX1_setsAtSea_6 : decode cX1_setsAtSea 6 = .ok (.getfield 18, 3) := by decide +kernel
theorem dX1_setsAtSea_9 : decode cX1_setsAtSea 9 = .ok (.if_icmp .ge 29, 3) := by decide +kernel
theorem dX1_setsAtSea_12 : decode cX1_setsAtSea 12 = .ok (.iload_n 1, 1) := by decide +kernel
theorem dX1_setsAtSea_13 : decode cX1_setsAtSea 13 = .ok (.aload_n 0, 1) := by decide +kernel
theorem dX1_setsAtSea_14 : decode cX1_setsAtSea 14 = .ok (.getfield 11, 3) := by decide +kernel
theorem dX1_setsAtSea_17 : decode cX1_setsAtSea 17 = .ok (.iload_n 2, 1) := by decide +kernel
theorem dX1_setsAtSea_18 : decode cX1_setsAtSea 18 = .ok (.aaload, 1) := by decide +kernel
theorem dX1_setsAtSea_19 : decode cX1_setsAtSea 19 = .ok (.getfield 30, 3) := by decide +kernel
theorem dX1_setsAtSea_22 : decode cX1_setsAtSea 22 = .ok (.ifCond .eq 7, 3) := by decide +kernel
theorem dX1_setsAtSea_25 : decode cX1_setsAtSea 25 = .ok (.iconst 1, 1) := by decide +kernel
theorem dX1_setsAtSea_26 : decode cX1_setsAtSea 26 = .ok (.goto 4, 3) := by decide +kernel
theorem dX1_setsAtSea_29 : decode cX1_setsAtSea 29 = .ok (.iconst 0, 1) := by decide +kernel
theorem dX1_setsAtSea_30 : decode cX1_setsAtSea 30 = .ok (.iadd, 1) := by decide +kernel
theorem dX1_setsAtSea_31 : decode cX1_setsAtSea 31 = .ok (.istore_n 1, 1) := by decide +kernel
theorem dX1_setsAtSea_32 : decode cX1_setsAtSea 32 = .ok (.iinc 2 1, 3) := by decide +kernel
theorem dX1_setsAtSea_35 : decode cX1_setsAtSea 35 = .ok (.goto (-31), 3) := by decide +kernel
theorem dX1_setsAtSea_38 : decode cX1_setsAtSea 38 = .ok (.iload_n 1, 1) := by decide +kernel
theorem dX1_setsAtSea_39 : decode cX1_setsAtSea 39 = .ok (.ireturn, 1) := by decide +kernel
set_option maxRecDepth 20000 in
theorem ggX1_boatsOfKind_X0_boatsOfKind : GoodIn wsX1_boatsOfKind wsX0_boatsOfKind := goodIn_r _ [7, 8, 9, 12, 13, 14, 15, 16, 17, 18] (by decide +kernel) (by decide +kernel)
set_option maxRecDepth 20000 in
theorem gX1_boatsOfKind_X0_boatsOfKind : GoodIn wsX1_boatsOfKind (wsV RX1 34 RX0 yX0_boatsOfKind wsX0_boatsOfKind) := goodIn_app (goodIn_of _ (by decide +kernel)) ggX1_boatsOfKind_X0_boatsOfKind
theorem dX1_boatsOfKind_0 : decode cX1_boatsOfKind 0 = .ok (.iconst 0, 1) := by decide +kernel
theorem dX1_boatsOfKind_1 : decode cX1_boatsOfKind 1 = .ok (.istore_n 2, 1) := by decide +kernel
theorem dX1_boatsOfKind_2 : decode cX1_boatsOfKind 2 = .ok (.iconst 0, 1) := by decide +kernel
theorem dX1_boatsOfKind_3 : decode cX1_boatsOfKind 3 = .ok (.istore_n 3, 1) := by decide +kernel
theorem dX1_boatsOfKind_4 : decode cX1_boatsOfKind 4 = .ok (.iload_n 3, 1) := by decide +kernel
theorem dX1_boatsOfKind_5 : decode cX1_boatsOfKind 5 = .ok (.aload_n 0, 1) := by decide +kernel
theorem dX1_boatsOfKind_6 : decode cX1_boatsOfKind 6 = .ok (.getfield 18, 3) := by decide +kernel
theorem dX1_boatsOfKind_9 : decode cX1_boatsOfKind 9 = .ok (.if_icmp .ge 22, 3) := by decide +kernel
theorem dX1_boatsOfKind_12 : decode cX1_boatsOfKind 12 = .ok (.iload_n 2, 1) := by decide +kernel
theorem dX1_boatsOfKind_13 : decode cX1_boatsOfKind 13 = .ok (.aload_n 0, 1) := by decide +kernel
theorem dX1_boatsOfKind_14 : decode cX1_boatsOfKind 14 = .ok (.getfield 11, 3) := by decide +kernel
theorem dX1_boatsOfKind_17 : decode cX1_boatsOfKind 17 = .ok (.iload_n 3, 1) := by decide +kernel
theorem dX1_boatsOfKind_18 : decode cX1_boatsOfKind 18 = .ok (.aaload, 1) := by decide +kernel
theorem dX1_boatsOfKind_19 : decode cX1_boatsOfKind 19 = .ok (.iload_n 1, 1) := by decide +kernel
theorem dX1_boatsOfKind_20 : decode cX1_boatsOfKind 20 = .ok (.invokevirtual 34, 3) := by decide +kernel
theorem dX1_boatsOfKind_23 : decode cX1_boatsOfKind 23 = .ok (.iadd, 1) := by decide +kernel
theorem dX1_boatsOfKind_24 : decode cX1_boatsOfKind 24 = .ok (.istore_n 2, 1) := by decide +kernel
theorem dX1_boatsOfKind_25 : decode cX1_boatsOfKind 25 = .ok (.iinc 3 1, 3) := by decide +kernel
theorem dX1_boatsOfKind_28 : decode cX1_boatsOfKind 28 = .ok (.goto (-24), 3) := by decide +kernel
theorem dX1_boatsOfKind_31 : decode cX1_boatsOfKind 31 = .ok (.iload_n 2, 1) := by decide +kernel
theorem dX1_boatsOfKind_32 : decode cX1_boatsOfKind 32 = .ok (.ireturn, 1) := by decide +kernel
set_option maxRecDepth 20000 in
theorem ggX1_units_X0_units : GoodIn wsX1_units wsX0_units := goodIn_r _ [7, 8, 9, 10, 11, 6, 12, 13, 14, 17, 18, 19, 20, 21, 22, 23] (by decide +kernel) (by decide +kernel)
set_option maxRecDepth 20000 in
theorem gX1_units_X0_units : GoodIn wsX1_units (wsV RX1 38 RX0 yX0_units wsX0_units) := goodIn_app (goodIn_of _ (by decide +kernel)) ggX1_units_X0_units
theorem dX1_units_0 : decode cX1_units 0 = .ok (.iconst 0, 1) := by decide +kernel
theorem dX1_units_1 : decode cX1_units 1 = .ok (.istore_n 1, 1) := by decide +kernel
theorem dX1_units_2 : decode cX1_units 2 = .ok (.iconst 0, 1) := by decide +kernel
theorem dX1_units_3 : decode cX1_units 3 = .ok (.istore_n 2, 1) := by decide +kernel
theorem dX1_units_4 : decode cX1_units 4 = .ok (.iload_n 2, 1) := by decide +kernel
theorem dX1_units_5 : decode cX1_units 5 = .ok (.aload_n 0, 1) := by decide +kernel
theorem dX1_units_6 : decode cX1_units 6 = .ok (.getfield 18, 3) := by decide +kernel
theorem dX1_units_9 : decode cX1_units 9 = .ok (.if_icmp .ge 21, 3) := by decide +kernel
theorem dX1_units_12 : decode cX1_units 12 = .ok (.iload_n 1, 1) := by decide +kernel
theorem dX1_units_13 : decode cX1_units 13 = .ok (.aload_n 0, 1) := by decide +kernel
theorem dX1_units_14 : decode cX1_units 14 = .ok (.getfield 11, 3) := by decide +kernel
theorem dX1_units_17 : decode cX1_units 17 = .ok (.iload_n 2, 1) := by decide +kernel
theorem dX1_units_18 : decode cX1_units 18 = .ok (.aaload, 1) := by decide +kernel
theorem dX1_units_19 : decode cX1_units 19 = .ok (.invokevirtual 38, 3) := by decide +kernel
theorem dX1_units_22 : decode cX1_units 22 = .ok (.iadd, 1) := by decide +kernel
theorem dX1_units_23 : decode cX1_units 23 = .ok (.istore_n 1, 1) := by decide +kernel
theorem dX1_units_24 : decode cX1_units 24 = .ok (.iinc 2 1, 3) := by decide +kernel
theorem dX1_units_27 : decode cX1_units 27 = .ok (.goto (-23), 3) := by decide +kernel
theorem dX1_units_30 : decode cX1_units 30 = .ok (.iload_n 1, 1) := by decide +kernel
theorem dX1_units_31 : decode cX1_units 31 = .ok (.ireturn, 1) := by decide +kernel
set_option maxRecDepth 20000 in
theorem ggX1_numbers_X0_numbers : GoodIn wsX1_numbers wsX0_numbers := goodIn_r _ [7, 8, 11, 12, 13, 14, 15, 16, 17] (by decide +kernel) (by decide +kernel)
set_option maxRecDepth 20000 in
theorem gX1_numbers_X0_numbers : GoodIn wsX1_numbers (wsV RX1 42 RX0 yX0_numbers wsX0_numbers) := goodIn_app (goodIn_of _ (by decide +kernel)) ggX1_numbers_X0_numbers
theorem dX1_numbers_0 : decode cX1_numbers 0 = .ok (.iconst 0, 1) := by decide +kernel
theorem dX1_numbers_1 : decode cX1_numbers 1 = .ok (.istore_n 1, 1) := by decide +kernel
theorem dX1_numbers_2 : decode cX1_numbers 2 = .ok (.iconst 0, 1) := by decide +kernel
theorem dX1_numbers_3 : decode cX1_numbers 3 = .ok (.istore_n 2, 1) := by decide +kernel
theorem dX1_numbers_4 : decode cX1_numbers 4 = .ok (.iload_n 2, 1) := by decide +kernel
theorem dX1_numbers_5 : decode cX1_numbers 5 = .ok (.aload_n 0, 1) := by decide +kernel
theorem dX1_numbers_6 : decode cX1_numbers 6 = .ok (.getfield 18, 3) := by decide +kernel
theorem dX1_numbers_9 : decode cX1_numbers 9 = .ok (.if_icmp .ge 21, 3) := by decide +kernel
theorem dX1_numbers_12 : decode cX1_numbers 12 = .ok (.iload_n 1, 1) := by decide +kernel
theorem dX1_numbers_13 : decode cX1_numbers 13 = .ok (.aload_n 0, 1) := by decide +kernel
theorem dX1_numbers_14 : decode cX1_numbers 14 = .ok (.getfield 11, 3) := by decide +kernel
theorem dX1_numbers_17 : decode cX1_numbers 17 = .ok (.iload_n 2, 1) := by decide +kernel
theorem dX1_numbers_18 : decode cX1_numbers 18 = .ok (.aaload, 1) := by decide +kernel
theorem dX1_numbers_19 : decode cX1_numbers 19 = .ok (.invokevirtual 42, 3) := by decide +kernel
theorem dX1_numbers_22 : decode cX1_numbers 22 = .ok (.iadd, 1) := by decide +kernel
theorem dX1_numbers_23 : decode cX1_numbers 23 = .ok (.istore_n 1, 1) := by decide +kernel
theorem dX1_numbers_24 : decode cX1_numbers 24 = .ok (.iinc 2 1, 3) := by decide +kernel
theorem dX1_numbers_27 : decode cX1_numbers 27 = .ok (.goto (-23), 3) := by decide +kernel
theorem dX1_numbers_30 : decode cX1_numbers 30 = .ok (.iload_n 1, 1) := by decide +kernel
theorem dX1_numbers_31 : decode cX1_numbers 31 = .ok (.ireturn, 1) := by decide +kernel
theorem dX1_tollsPaid_0 : decode cX1_tollsPaid 0 = .ok (.iconst 0, 1) := by decide +kernel
theorem dX1_tollsPaid_1 : decode cX1_tollsPaid 1 = .ok (.istore_n 1, 1) := by decide +kernel
theorem dX1_tollsPaid_2 : decode cX1_tollsPaid 2 = .ok (.iconst 0, 1) := by decide +kernel
theorem dX1_tollsPaid_3 : decode cX1_tollsPaid 3 = .ok (.istore_n 2, 1) := by decide +kernel
theorem dX1_tollsPaid_4 : decode cX1_tollsPaid 4 = .ok (.iload_n 2, 1) := by decide +kernel
theorem dX1_tollsPaid_5 : decode cX1_tollsPaid 5 = .ok (.aload_n 0, 1) := by decide +kernel
theorem dX1_tollsPaid_6 : decode cX1_tollsPaid 6 = .ok (.getfield 18, 3) := by decide +kernel
theorem dX1_tollsPaid_9 : decode cX1_tollsPaid 9 = .ok (.if_icmp .ge 21, 3) := by decide +kernel
theorem dX1_tollsPaid_12 : decode cX1_tollsPaid 12 = .ok (.iload_n 1, 1) := by decide +kernel
theorem dX1_tollsPaid_13 : decode cX1_tollsPaid 13 = .ok (.aload_n 0, 1) := by decide +kernel
theorem dX1_tollsPaid_14 : decode cX1_tollsPaid 14 = .ok (.getfield 11, 3) := by decide +kernel
theorem dX1_tollsPaid_17 : decode cX1_tollsPaid 17 = .ok (.iload_n 2, 1) := by decide +kernel
theorem dX1_tollsPaid_18 : decode cX1_tollsPaid 18 = .ok (.aaload, 1) := by decide +kernel
theorem dX1_tollsPaid_19 : decode cX1_tollsPaid 19 = .ok (.getfield 45, 3) := by decide +kernel
theorem dX1_tollsPaid_22 : decode cX1_tollsPaid 22 = .ok (.iadd, 1) := by decide +kernel
theorem dX1_tollsPaid_23 : decode cX1_tollsPaid 23 = .ok (.istore_n 1, 1) := by decide +kernel
theorem dX1_tollsPaid_24 : decode cX1_tollsPaid 24 = .ok (.iinc 2 1, 3) := by decide +kernel
theorem dX1_tollsPaid_27 : decode cX1_tollsPaid 27 = .ok (.goto (-23), 3) := by decide +kernel
theorem dX1_tollsPaid_30 : decode cX1_tollsPaid 30 = .ok (.iload_n 1, 1) := by decide +kernel
theorem dX1_tollsPaid_31 : decode cX1_tollsPaid 31 = .ok (.ireturn, 1) := by decide +kernel
set_option maxRecDepth 20000 in
theorem ggX1_differentNumbers_X1_heldByAny : GoodIn wsX1_differentNumbers wsX1_heldByAny := goodIn_r _ [5, 6, 7, 8, 16, 17, 18, 19, 20, 21, 22, 23, 24] (by decide +kernel) (by decide +kernel)
set_option maxRecDepth 20000 in
theorem gX1_differentNumbers_X1_heldByAny : GoodIn wsX1_differentNumbers (wsV RX1 48 RX1 yX1_heldByAny wsX1_heldByAny) := goodIn_app (goodIn_of _ (by decide +kernel)) ggX1_differentNumbers_X1_heldByAny
set_option maxRecDepth 20000 in
theorem ggX1_differentNumbers_J13_bitCount_95d88 : GoodIn wsX1_differentNumbers wsJ13_bitCount_95d88 := goodIn_r _ [12, 13, 14, 15] (by decide +kernel) (by decide +kernel)
set_option maxRecDepth 20000 in
theorem gX1_differentNumbers_J13_bitCount_95d88 : GoodIn wsX1_differentNumbers (va_wsS RX1 52 yJ13_bitCount_95d88 wsJ13_bitCount_95d88) := goodIn_app (goodIn_of _ (by decide +kernel)) ggX1_differentNumbers_J13_bitCount_95d88
theorem dX1_differentNumbers_0 : decode cX1_differentNumbers 0 = .ok (.iconst 0, 1) := by decide +kernel
theorem dX1_differentNumbers_1 : decode cX1_differentNumbers 1 = .ok (.istore_n 1, 1) := by decide +kernel
theorem dX1_differentNumbers_2 : decode cX1_differentNumbers 2 = .ok (.iconst 0, 1) := by decide +kernel
theorem dX1_differentNumbers_3 : decode cX1_differentNumbers 3 = .ok (.istore_n 2, 1) := by decide +kernel
theorem dX1_differentNumbers_4 : decode cX1_differentNumbers 4 = .ok (.iload_n 2, 1) := by decide +kernel
theorem dX1_differentNumbers_5 : decode cX1_differentNumbers 5 = .ok (.bipush 32, 2) := by decide +kernel
theorem dX1_differentNumbers_7 : decode cX1_differentNumbers 7 = .ok (.if_icmp .ge 20, 3) := by decide +kernel
theorem dX1_differentNumbers_10 : decode cX1_differentNumbers 10 = .ok (.iload_n 1, 1) := by decide +kernel
theorem dX1_differentNumbers_11 : decode cX1_differentNumbers 11 = .ok (.aload_n 0, 1) := by decide +kernel
theorem dX1_differentNumbers_12 : decode cX1_differentNumbers 12 = .ok (.iload_n 2, 1) := by decide +kernel
theorem dX1_differentNumbers_13 : decode cX1_differentNumbers 13 = .ok (.invokevirtual 48, 3) := by decide +kernel
theorem dX1_differentNumbers_16 : decode cX1_differentNumbers 16 = .ok (.invokestatic 52, 3) := by decide +kernel
theorem dX1_differentNumbers_19 : decode cX1_differentNumbers 19 = .ok (.iadd, 1) := by decide +kernel
theorem dX1_differentNumbers_20 : decode cX1_differentNumbers 20 = .ok (.istore_n 1, 1) := by decide +kernel
theorem dX1_differentNumbers_21 : decode cX1_differentNumbers 21 = .ok (.iinc 2 1, 3) := by decide +kernel
theorem dX1_differentNumbers_24 : decode cX1_differentNumbers 24 = .ok (.goto (-20), 3) := by decide +kernel
theorem dX1_differentNumbers_27 : decode cX1_differentNumbers 27 = .ok (.iload_n 1, 1) := by decide +kernel
theorem dX1_differentNumbers_28 : decode cX1_differentNumbers 28 = .ok (.ireturn, 1) := by decide +kernel
theorem dX1_heldByAny_0 : decode cX1_heldByAny 0 = .ok (.lconst 0, 1) := by decide +kernel
theorem dX1_heldByAny_1 : decode cX1_heldByAny 1 = .ok (.lstore_n 2, 1) := by decide +kernel
theorem dX1_heldByAny_2 : decode cX1_heldByAny 2 = .ok (.iconst 0, 1) := by decide +kernel
theorem dX1_heldByAny_3 : decode cX1_heldByAny 3 = .ok (.istore 4, 2) := by decide +kernel
theorem dX1_heldByAny_5 : decode cX1_heldByAny 5 = .ok (.iload 4, 2) := by decide +kernel
theorem dX1_heldByAny_7 : decode cX1_heldByAny 7 = .ok (.aload_n 0, 1) := by decide +kernel
theorem dX1_heldByAny_8 : decode cX1_heldByAny 8 = .ok (.getfield 18, 3) := by decide +kernel
theorem dX1_heldByAny_11 : decode cX1_heldByAny 11 = .ok (.if_icmp .ge 24, 3) := by decide +kernel
theorem dX1_heldByAny_14 : decode cX1_heldByAny 14 = .ok (.lload_n 2, 1) := by decide +kernel
theorem dX1_heldByAny_15 : decode cX1_heldByAny 15 = .ok (.aload_n 0, 1) := by decide +kernel
theorem dX1_heldByAny_16 : decode cX1_heldByAny 16 = .ok (.getfield 11, 3) := by decide +kernel
theorem dX1_heldByAny_19 : decode cX1_heldByAny 19 = .ok (.iload 4, 2) := by decide +kernel
theorem dX1_heldByAny_21 : decode cX1_heldByAny 21 = .ok (.aaload, 1) := by decide +kernel
theorem dX1_heldByAny_22 : decode cX1_heldByAny 22 = .ok (.getfield 58, 3) := by decide +kernel
theorem dX1_heldByAny_25 : decode cX1_heldByAny 25 = .ok (.iload_n 1, 1) := by decide +kernel
theorem dX1_heldByAny_26 : decode cX1_heldByAny 26 = .ok (.laload, 1) := by decide +kernel
theorem dX1_heldByAny_27 : decode cX1_heldByAny 27 = .ok (.lor, 1) := by decide +kernel
theorem dX1_heldByAny_28 : decode cX1_heldByAny 28 = .ok (.lstore_n 2, 1) := by decide +kernel
theorem dX1_heldByAny_29 : decode cX1_heldByAny 29 = .ok (.iinc 4 1, 3) := by decide +kernel
theorem dX1_heldByAny_32 : decode cX1_heldByAny 32 = .ok (.goto (-27), 3) := by decide +kernel
theorem dX1_heldByAny_35 : decode cX1_heldByAny 35 = .ok (.lload_n 2, 1) := by decide +kernel
theorem dX1_heldByAny_36 : decode cX1_heldByAny 36 = .ok (.lreturn, 1) := by decide +kernel
set_option maxRecDepth 20000 in
theorem ggX1_holders_X0_holds : GoodIn wsX1_holders wsX0_holds := goodIn_r _ [7, 8, 9, 10, 11, 14, 15, 16, 17, 18, 19, 20] (by decide +kernel) (by decide +kernel)
set_option maxRecDepth 20000 in
theorem gX1_holders_X0_holds : GoodIn wsX1_holders (wsV RX1 62 RX0 yX0_holds wsX0_holds) := goodIn_app (goodIn_of _ (by decide +kernel)) ggX1_holders_X0_holds
theorem dX1_holders_0 : decode cX1_holders 0 = .ok (.iconst 0, 1) := by decide +kernel
theorem dX1_holders_1 : decode cX1_holders 1 = .ok (.istore_n 2, 1) := by decide +kernel
theorem dX1_holders_2 : decode cX1_holders 2 = .ok (.iconst 0, 1) := by decide +kernel
theorem dX1_holders_3 : decode cX1_holders 3 = .ok (.istore_n 3, 1) := by decide +kernel
theorem dX1_holders_4 : decode cX1_holders 4 = .ok (.iload_n 3, 1) := by decide +kernel
theorem dX1_holders_5 : decode cX1_holders 5 = .ok (.aload_n 0, 1) := by decide +kernel
theorem dX1_holders_6 : decode cX1_holders 6 = .ok (.getfield 18, 3) := by decide +kernel
theorem dX1_holders_9 : decode cX1_holders 9 = .ok (.if_icmp .ge 30, 3) := by decide +kernel
theorem dX1_holders_12 : decode cX1_holders 12 = .ok (.iload_n 2, 1) := by decide +kernel
theorem dX1_holders_13 : decode cX1_holders 13 = .ok (.aload_n 0, 1) := by decide +kernel
theorem dX1_holders_14 : decode cX1_holders 14 = .ok (.getfield 11, 3) := by decide +kernel
theorem dX1_holders_17 : decode cX1_holders 17 = .ok (.iload_n 3, 1) := by decide +kernel
theorem dX1_holders_18 : decode cX1_holders 18 = .ok (.aaload, 1) := by decide +kernel
theorem dX1_holders_19 : decode cX1_holders 19 = .ok (.iload_n 1, 1) := by decide +kernel
theorem dX1_holders_20 : decode cX1_holders 20 = .ok (.invokevirtual 62, 3) := by decide +kernel
theorem dX1_holders_23 : decode cX1_holders 23 = .ok (.ifCond .eq 7, 3) := by decide +kernel
theorem dX1_holders_26 : decode cX1_holders 26 = .ok (.iconst 1, 1) := by decide +kernel
theorem dX1_holders_27 : decode cX1_holders 27 = .ok (.goto 4, 3) := by decide +kernel
theorem dX1_holders_30 : decode cX1_holders 30 = .ok (.iconst 0, 1) := by decide +kernel
theorem dX1_holders_31 : decode cX1_holders 31 = .ok (.iadd, 1) := by decide +kernel
theorem dX1_holders_32 : decode cX1_holders 32 = .ok (.istore_n 2, 1) := by decide +kernel
theorem dX1_holders_33 : decode cX1_holders 33 = .ok (.iinc 3 1, 3) := by decide +kernel
theorem dX1_holders_36 : decode cX1_holders 36 = .ok (.goto (-32), 3) := by decide +kernel
theorem dX1_holders_39 : decode cX1_holders 39 = .ok (.iload_n 2, 1) := by decide +kernel
theorem dX1_holders_40 : decode cX1_holders 40 = .ok (.ireturn, 1) := by decide +kernel
set_option maxRecDepth 20000 in
theorem ggX1_mostHeld_X1_heldByAny : GoodIn wsX1_mostHeld wsX1_heldByAny := goodIn_r _ [5, 6, 7, 8, 22, 23, 24, 25, 26, 27, 28, 29, 30] (by decide +kernel) (by decide +kernel)
set_option maxRecDepth 20000 in
theorem gX1_mostHeld_X1_heldByAny : GoodIn wsX1_mostHeld (wsV RX1 48 RX1 yX1_heldByAny wsX1_heldByAny) := goodIn_app (goodIn_of _ (by decide +kernel)) ggX1_mostHeld_X1_heldByAny
set_option maxRecDepth 20000 in
theorem ggX1_mostHeld_X1_holders : GoodIn wsX1_mostHeld wsX1_holders := goodIn_r _ [12, 6, 7, 13, 14, 15, 16, 17, 18, 19, 20, 21, 22, 23, 24, 25, 26, 27, 28, 29, 30] (by decide +kernel) (by decide +kernel)
set_option maxRecDepth 20000 in
theorem gX1_mostHeld_X1_holders : GoodIn wsX1_mostHeld (wsV RX1 66 RX1 yX1_holders wsX1_holders) := goodIn_app (goodIn_of _ (by decide +kernel)) ggX1_mostHeld_X1_holders
theorem dX1_mostHeld_0 : decode cX1_mostHeld 0 = .ok (.bipush (-5), 2) := by decide +kernel
theorem dX1_mostHeld_2 : decode cX1_mostHeld 2 = .ok (.istore_n 1, 1) := by decide +kernel
theorem dX1_mostHeld_3 : decode cX1_mostHeld 3 = .ok (.iconst 0, 1) := by decide +kernel
theorem dX1_mostHeld_4 : decode cX1_mostHeld 4 = .ok (.istore_n 2, 1) := by decide +kernel
theorem dX1_mostHeld_5 : decode cX1_mostHeld 5 = .ok (.iconst 0, 1) := by decide +kernel
theorem dX1_mostHeld_6 : decode cX1_mostHeld 6 = .ok (.istore_n 3, 1) := by decide +kernel
theorem dX1_mostHeld_7 : decode cX1_mostHeld 7 = .ok (.iload_n 3, 1) := by decide +kernel
theorem dX1_mostHeld_8 : decode cX1_mostHeld 8 = .ok (.bipush 32, 2) := by decide +kernel
theorem dX1_mostHeld_10 : decode cX1_mostHeld 10 = .ok (.if_icmp .ge 72, 3) := by decide +kernel
theorem dX1_mostHeld_13 : decode cX1_mostHeld 13 = .ok (.aload_n 0, 1) := by decide +kernel
theorem dX1_mostHeld_14 : decode cX1_mostHeld 14 = .ok (.iload_n 3, 1) := by decide +kernel
theorem dX1_mostHeld_15 : decode cX1_mostHeld 15 = .ok (.invokevirtual 48, 3) := by decide +kernel
theorem dX1_mostHeld_18 : decode cX1_mostHeld 18 = .ok (.lconst 0, 1) := by decide +kernel
theorem dX1_mostHeld_19 : decode cX1_mostHeld 19 = .ok (.lcmp, 1) := by decide +kernel
theorem dX1_mostHeld_20 : decode cX1_mostHeld 20 = .ok (.ifCond .ne 7, 3) := by decide +kernel
theorem dX1_mostHeld_23 : decode cX1_mostHeld 23 = .ok (.iconst 0, 1) := by decide +kernel
theorem dX1_mostHeld_24 : decode cX1_mostHeld 24 = .ok (.goto 5, 3) := by decide +kernel
theorem dX1_mostHeld_27 : decode cX1_mostHeld 27 = .ok (.bipush 64, 2) := by decide +kernel
theorem dX1_mostHeld_29 : decode cX1_mostHeld 29 = .ok (.istore 4, 2) := by decide +kernel
theorem dX1_mostHeld_31 : decode cX1_mostHeld 31 = .ok (.iconst 0, 1) := by decide +kernel
theorem dX1_mostHeld_32 : decode cX1_mostHeld 32 = .ok (.istore 5, 2) := by decide +kernel
theorem dX1_mostHeld_34 : decode cX1_mostHeld 34 = .ok (.iload 5, 2) := by decide +kernel
theorem dX1_mostHeld_36 : decode cX1_mostHeld 36 = .ok (.iload 4, 2) := by decide +kernel
theorem dX1_mostHeld_38 : decode cX1_mostHeld 38 = .ok (.if_icmp .ge 38, 3) := by decide +kernel
theorem dX1_mostHeld_41 : decode cX1_mostHeld 41 = .ok (.iload_n 3, 1) := by decide +kernel
theorem dX1_mostHeld_42 : decode cX1_mostHeld 42 = .ok (.bipush 64, 2) := by decide +kernel
theorem dX1_mostHeld_44 : decode cX1_mostHeld 44 = .ok (.imul, 1) := by decide +kernel
theorem dX1_mostHeld_45 : decode cX1_mostHeld 45 = .ok (.iload 5, 2) := by decide +kernel
theorem dX1_mostHeld_47 : decode cX1_mostHeld 47 = .ok (.iadd, 1) := by decide +kernel
theorem dX1_mostHeld_48 : decode cX1_mostHeld 48 = .ok (.istore 6, 2) := by decide +kernel
theorem dX1_mostHeld_50 : decode cX1_mostHeld 50 = .ok (.aload_n 0, 1) := by decide +kernel
theorem dX1_mostHeld_51 : decode cX1_mostHeld 51 = .ok (.iload 6, 2) := by decide +kernel
theorem dX1_mostHeld_53 : decode cX1_mostHeld 53 = .ok (.invokevirtual 66, 3) := by decide +kernel
theorem dX1_mostHeld_56 : decode cX1_mostHeld 56 = .ok (.istore 7, 2) := by decide +kernel
theorem dX1_mostHeld_58 : decode cX1_mostHeld 58 = .ok (.iload 7, 2) := by decide +kernel
theorem dX1_mostHeld_60 : decode cX1_mostHeld 60 = .ok (.iload_n 2, 1) := by decide +kernel
theorem dX1_mostHeld_61 : decode cX1_mostHeld 61 = .ok (.if_icmp .le 9, 3) := by decide +kernel
theorem dX1_mostHeld_64 : decode cX1_mostHeld 64 = .ok (.iload 6, 2) := by decide +kernel
theorem dX1_mostHeld_66 : decode cX1_mostHeld 66 = .ok (.istore_n 1, 1) := by decide +kernel
theorem dX1_mostHeld_67 : decode cX1_mostHeld 67 = .ok (.iload 7, 2) := by decide +kernel
theorem dX1_mostHeld_69 : decode cX1_mostHeld 69 = .ok (.istore_n 2, 1) := by decide +kernel
theorem dX1_mostHeld_70 : decode cX1_mostHeld 70 = .ok (.iinc 5 1, 3) := by decide +kernel
theorem dX1_mostHeld_73 : decode cX1_mostHeld 73 = .ok (.goto (-39), 3) := by decide +kernel
theorem dX1_mostHeld_76 : decode cX1_mostHeld 76 = .ok (.iinc 3 1, 3) := by decide +kernel
theorem dX1_mostHeld_79 : decode cX1_mostHeld 79 = .ok (.goto (-72), 3) := by decide +kernel
theorem dX1_mostHeld_82 : decode cX1_mostHeld 82 = .ok (.iload_n 1, 1) := by decide +kernel
theorem dX1_mostHeld_83 : decode cX1_mostHeld 83 = .ok (.ireturn, 1) := by decide +kernel
set_option maxRecDepth 20000 in
theorem ggX1_numberOfAll_X1_heldByAny : GoodIn wsX1_numberOfAll wsX1_heldByAny := goodIn_r _ [5, 6, 7, 8, 22, 23, 24, 25, 26, 27, 28, 29, 30] (by decide +kernel) (by decide +kernel)
set_option maxRecDepth 20000 in
theorem gX1_numberOfAll_X1_heldByAny : GoodIn wsX1_numberOfAll (wsV RX1 48 RX1 yX1_heldByAny wsX1_heldByAny) := goodIn_app (goodIn_of _ (by decide +kernel)) ggX1_numberOfAll_X1_heldByAny
set_option maxRecDepth 20000 in
theorem ggX1_numberOfAll_X1_holders : GoodIn wsX1_numberOfAll wsX1_holders := goodIn_r _ [12, 6, 7, 13, 14, 15, 16, 17, 18, 19, 20, 21, 22, 23, 24, 25, 26, 27, 28, 29, 30] (by decide +kernel) (by decide +kernel)
set_option maxRecDepth 20000 in
theorem gX1_numberOfAll_X1_holders : GoodIn wsX1_numberOfAll (wsV RX1 66 RX1 yX1_holders wsX1_holders) := goodIn_app (goodIn_of _ (by decide +kernel)) ggX1_numberOfAll_X1_holders
theorem dX1_numberOfAll_0 : decode cX1_numberOfAll 0 = .ok (.iload_n 1, 1) := by decide +kernel
theorem dX1_numberOfAll_1 : decode cX1_numberOfAll 1 = .ok (.istore_n 2, 1) := by decide +kernel
theorem dX1_numberOfAll_2 : decode cX1_numberOfAll 2 = .ok (.iconst 0, 1) := by decide +kernel
theorem dX1_numberOfAll_3 : decode cX1_numberOfAll 3 = .ok (.istore_n 3, 1) := by decide +kernel
theorem dX1_numberOfAll_4 : decode cX1_numberOfAll 4 = .ok (.iload_n 3, 1) := by decide +kernel
theorem dX1_numberOfAll_5 : decode cX1_numberOfAll 5 = .ok (.bipush 32, 2) := by decide +kernel
theorem dX1_numberOfAll_7 : decode cX1_numberOfAll 7 = .ok (.if_icmp .ge 68, 3) := by decide +kernel
theorem dX1_numberOfAll_10 : decode cX1_numberOfAll 10 = .ok (.aload_n 0, 1) := by decide +kernel
theorem dX1_numberOfAll_11 : decode cX1_numberOfAll 11 = .ok (.iload_n 3, 1) := by decide +kernel
theorem dX1_numberOfAll_12 : decode cX1_numberOfAll 12 = .ok (.invokevirtual 48, 3) := by decide +kernel
theorem dX1_numberOfAll_15 : decode cX1_numberOfAll 15 = .ok (.lconst 0, 1) := by decide +kernel
theorem dX1_numberOfAll_16 : decode cX1_numberOfAll 16 = .ok (.lcmp, 1) := by decide +kernel
theorem dX1_numberOfAll_17 : decode cX1_numberOfAll 17 = .ok (.ifCond .ne 7, 3) := by decide +kernel
theorem dX1_numberOfAll_20 : decode cX1_numberOfAll 20 = .ok (.iconst 0, 1) := by decide +kernel
theorem dX1_numberOfAll_21 : decode cX1_numberOfAll 21 = .ok (.goto 5, 3) := by decide +kernel
theorem dX1_numberOfAll_24 : decode cX1_numberOfAll 24 = .ok (.bipush 64, 2) := by decide +kernel
theorem dX1_numberOfAll_26 : decode cX1_numberOfAll 26 = .ok (.istore 4, 2) := by decide +kernel
theorem dX1_numberOfAll_28 : decode cX1_numberOfAll 28 = .ok (.iconst 0, 1) := by decide +kernel
theorem dX1_numberOfAll_29 : decode cX1_numberOfAll 29 = .ok (.istore 5, 2) := by decide +kernel
theorem dX1_numberOfAll_31 : decode cX1_numberOfAll 31 = .ok (.iload 5, 2) := by decide +kernel
theorem dX1_numberOfAll_33 : decode cX1_numberOfAll 33 = .ok (.iload 4, 2) := by decide +kernel
theorem dX1_numberOfAll_35 : decode cX1_numberOfAll 35 = .ok (.if_icmp .ge 34, 3) := by decide +kernel
theorem dX1_numberOfAll_38 : decode cX1_numberOfAll 38 = .ok (.iload_n 3, 1) := by decide +kernel
theorem dX1_numberOfAll_39 : decode cX1_numberOfAll 39 = .ok (.bipush 64, 2) := by decide +kernel
theorem dX1_numberOfAll_41 : decode cX1_numberOfAll 41 = .ok (.imul, 1) := by decide +kernel
theorem dX1_numberOfAll_42 : decode cX1_numberOfAll 42 = .ok (.iload 5, 2) := by decide +kernel
theorem dX1_numberOfAll_44 : decode cX1_numberOfAll 44 = .ok (.iadd, 1) := by decide +kernel
theorem dX1_numberOfAll_45 : decode cX1_numberOfAll 45 = .ok (.istore 6, 2) := by decide +kernel
theorem dX1_numberOfAll_47 : decode cX1_numberOfAll 47 = .ok (.iload_n 2, 1) := by decide +kernel
theorem dX1_numberOfAll_48 : decode cX1_numberOfAll 48 = .ok (.aload_n 0, 1) := by decide +kernel
theorem dX1_numberOfAll_49 : decode cX1_numberOfAll 49 = .ok (.iload 6, 2) := by decide +kernel
theorem dX1_numberOfAll_51 : decode cX1_numberOfAll 51 = .ok (.invokevirtual 66, 3) := by decide +kernel
theorem dX1_numberOfAll_54 : decode cX1_numberOfAll 54 = .ok (.isub, 1) := by decide +kernel
theorem dX1_numberOfAll_55 : decode cX1_numberOfAll 55 = .ok (.istore_n 2, 1) := by decide +kernel
theorem dX1_numberOfAll_56 : decode cX1_numberOfAll 56 = .ok (.iload_n 2, 1) := by decide +kernel
theorem dX1_numberOfAll_57 : decode cX1_numberOfAll 57 = .ok (.ifCond .ge 6, 3) := by decide +kernel
theorem dX1_numberOfAll_60 : decode cX1_numberOfAll 60 = .ok (.iload 6, 2) := by decide +kernel
theorem dX1_numberOfAll_62 : decode cX1_numberOfAll 62 = .ok (.ireturn, 1) := by decide +kernel
theorem dX1_numberOfAll_63 : decode cX1_numberOfAll 63 = .ok (.iinc 5 1, 3) := by decide +kernel
theorem dX1_numberOfAll_66 : decode cX1_numberOfAll 66 = .ok (.goto (-35), 3) := by decide +kernel
theorem dX1_numberOfAll_69 : decode cX1_numberOfAll 69 = .ok (.iinc 3 1, 3) := by decide +kernel
theorem dX1_numberOfAll_72 : decode cX1_numberOfAll 72 = .ok (.goto (-68), 3) := by decide +kernel
theorem dX1_numberOfAll_75 : decode cX1_numberOfAll 75 = .ok (.bipush (-5), 2) := by decide +kernel
theorem dX1_numberOfAll_77 : decode cX1_numberOfAll 77 = .ok (.ireturn, 1) := by decide +kernel
set_option maxRecDepth 20000 in
theorem ggX2_init_X1_init : GoodIn wsX2_init wsX1_init := goodIn_r _ [10, 11, 2, 3, 12, 13, 14, 15, 16, 17, 18, 19, 20, 21, 22, 23, 24, 25, 28, 29, 30, 31, 32, 33, 34, 35, 36] (by decide +kernel) (by decide +kernel)
set_option maxRecDepth 20000 in
theorem gX2_init_X1_init : GoodIn wsX2_init (wsX1_init) := ggX2_init_X1_init
theorem dX2_init_0 : decode cX2_init 0 = .ok (.aload_n 0, 1) := by decide +kernel
theorem dX2_init_1 : decode cX2_init 1 = .ok (.invokespecial 3, 3) := by decide +kernel
theorem dX2_init_4 : decode cX2_init 4 = .ok (.aload_n 0, 1) := by decide +kernel
theorem dX2_init_5 : decode cX2_init 5 = .ok (.iconst 4, 1) := by decide +kernel
theorem dX2_init_6 : decode cX2_init 6 = .ok (.anewarray 9, 3) := by decide +kernel
theorem dX2_init_9 : decode cX2_init 9 = .ok (.putfield 11, 3) := by decide +kernel
theorem dX2_init_12 : decode cX2_init 12 = .ok (.iconst 0, 1) := by decide +kernel
theorem dX2_init_13 : decode cX2_init 13 = .ok (.istore_n 1, 1) := by decide +kernel
theorem dX2_init_14 : decode cX2_init 14 = .ok (.iload_n 1, 1) := by decide +kernel
theorem dX2_init_15 : decode cX2_init 15 = .ok (.iconst 4, 1) := by decide +kernel
theorem dX2_init_16 : decode cX2_init 16 = .ok (.if_icmp .ge 22, 3) := by decide +kernel
theorem dX2_init_19 : decode cX2_init 19 = .ok (.aload_n 0, 1) := by decide +kernel
theorem dX2_init_20 : decode cX2_init 20 = .ok (.getfield 11, 3) := by decide +kernel
theorem dX2_init_23 : decode cX2_init 23 = .ok (.iload_n 1, 1) := by decide +kernel
theorem dX2_init_24 : decode cX2_init 24 = .ok (.new 9, 3) := by decide +kernel
theorem dX2_init_27 : decode cX2_init 27 = .ok (.dup, 1) := by decide +kernel
theorem dX2_init_28 : decode cX2_init 28 = .ok (.invokespecial 17, 3) := by decide +kernel
theorem dX2_init_31 : decode cX2_init 31 = .ok (.aastore, 1) := by decide +kernel
theorem dX2_init_32 : decode cX2_init 32 = .ok (.iinc 1 1, 3) := by decide +kernel
theorem dX2_init_35 : decode cX2_init 35 = .ok (.goto (-21), 3) := by decide +kernel
theorem dX2_init_38 : decode cX2_init 38 = .ok (.return_, 1) := by decide +kernel
set_option maxRecDepth 20000 in
theorem ggX2_push_X2_dropOldest : GoodIn wsX2_push wsX2_dropOldest := goodIn_r _ [7, 2, 1, 31, 32] (by decide +kernel) (by decide +kernel)
set_option maxRecDepth 20000 in
theorem gX2_push_X2_dropOldest : GoodIn wsX2_push (wsV RX2 22 RX2 yX2_dropOldest wsX2_dropOldest) := goodIn_app (goodIn_of _ (by decide +kernel)) ggX2_push_X2_dropOldest
set_option maxRecDepth 20000 in
theorem ggX2_push_X1_copyFrom : GoodIn wsX2_push wsX1_copyFrom := goodIn_r _ [12, 13, 14, 15, 16, 17, 18, 19, 20, 21, 22, 23, 24, 25, 26, 27, 28, 29, 30, 33, 34, 35, 36, 37, 38, 39, 40, 41] (by decide +kernel) (by decide +kernel)
set_option maxRecDepth 20000 in
theorem gX2_push_X1_copyFrom : GoodIn wsX2_push (wsV RX2 25 RX1 yX1_copyFrom wsX1_copyFrom) := goodIn_app (goodIn_of _ (by decide +kernel)) ggX2_push_X1_copyFrom
theorem dX2_push_0 : decode cX2_push 0 = .ok (.aload_n 0, 1) := by decide +kernel
theorem dX2_push_1 : decode cX2_push 1 = .ok (.getfield 18, 3) := by decide +kernel
theorem dX2_push_4 : decode cX2_push 4 = .ok (.iconst 4, 1) := by decide +kernel
theorem dX2_push_5 : decode cX2_push 5 = .ok (.if_icmp .lt 7, 3) := by decide +kernel
theorem dX2_push_8 : decode cX2_push 8 = .ok (.aload_n 0, 1) := by decide +kernel
theorem dX2_push_9 : decode cX2_push 9 = .ok (.invokevirtual 22, 3) := by decide +kernel
theorem dX2_push_12 : decode cX2_push 12 = .ok (.aload_n 0, 1) := by decide +kernel
theorem dX2_push_13 : decode cX2_push 13 = .ok (.getfield 11, 3) := by decide +kernel
theorem dX2_push_16 : decode cX2_push 16 = .ok (.aload_n 0, 1) := by decide +kernel
theorem dX2_push_17 : decode cX2_push 17 = .ok (.getfield 18, 3) := by decide +kernel
theorem dX2_push_20 : decode cX2_push 20 = .ok (.aaload, 1) := by decide +kernel
theorem dX2_push_21 : decode cX2_push 21 = .ok (.aload_n 1, 1) := by decide +kernel
theorem dX2_push_22 : decode cX2_push 22 = .ok (.invokevirtual 25, 3) := by decide +kernel
theorem dX2_push_25 : decode cX2_push 25 = .ok (.aload_n 0, 1) := by decide +kernel
theorem dX2_push_26 : decode cX2_push 26 = .ok (.dup, 1) := by decide +kernel
theorem dX2_push_27 : decode cX2_push 27 = .ok (.getfield 18, 3) := by decide +kernel
theorem dX2_push_30 : decode cX2_push 30 = .ok (.iconst 1, 1) := by decide +kernel
theorem dX2_push_31 : decode cX2_push 31 = .ok (.iadd, 1) := by decide +kernel
theorem dX2_push_32 : decode cX2_push 32 = .ok (.putfield 18, 3) := by decide +kernel
theorem dX2_push_35 : decode cX2_push 35 = .ok (.return_, 1) := by decide +kernel
theorem dX2_dropOldest_0 : decode cX2_dropOldest 0 = .ok (.aload_n 0, 1) := by decide +kernel
theorem dX2_dropOldest_1 : decode cX2_dropOldest 1 = .ok (.getfield 11, 3) := by decide +kernel
theorem dX2_dropOldest_4 : decode cX2_dropOldest 4 = .ok (.iconst 0, 1) := by decide +kernel
theorem dX2_dropOldest_5 : decode cX2_dropOldest 5 = .ok (.aaload, 1) := by decide +kernel
theorem dX2_dropOldest_6 : decode cX2_dropOldest 6 = .ok (.astore_n 1, 1) := by decide +kernel
theorem dX2_dropOldest_7 : decode cX2_dropOldest 7 = .ok (.iconst 1, 1) := by decide +kernel
theorem dX2_dropOldest_8 : decode cX2_dropOldest 8 = .ok (.istore_n 2, 1) := by decide +kernel
theorem dX2_dropOldest_9 : decode cX2_dropOldest 9 = .ok (.iload_n 2, 1) := by decide +kernel
theorem dX2_dropOldest_10 : decode cX2_dropOldest 10 = .ok (.iconst 4, 1) := by decide +kernel
theorem dX2_dropOldest_11 : decode cX2_dropOldest 11 = .ok (.if_icmp .ge 23, 3) := by decide +kernel
theorem dX2_dropOldest_14 : decode cX2_dropOldest 14 = .ok (.aload_n 0, 1) := by decide +kernel
theorem dX2_dropOldest_15 : decode cX2_dropOldest 15 = .ok (.getfield 11, 3) := by decide +kernel
theorem dX2_dropOldest_18 : decode cX2_dropOldest 18 = .ok (.iload_n 2, 1) := by decide +kernel
theorem dX2_dropOldest_19 : decode cX2_dropOldest 19 = .ok (.iconst 1, 1) := by decide +kernel
theorem dX2_dropOldest_20 : decode cX2_dropOldest 20 = .ok (.isub, 1) := by decide +kernel
theorem dX2_dropOldest_21 : decode cX2_dropOldest 21 = .ok (.aload_n 0, 1) := by decide +kernel
theorem dX2_dropOldest_22 : decode cX2_dropOldest 22 = .ok (.getfield 11, 3) := by decide +kernel
theorem dX2_dropOldest_25 : decode cX2_dropOldest 25 = .ok (.iload_n 2, 1) := by decide +kernel
theorem dX2_dropOldest_26 : decode cX2_dropOldest 26 = .ok (.aaload, 1) := by decide +kernel
theorem dX2_dropOldest_27 : decode cX2_dropOldest 27 = .ok (.aastore, 1) := by decide +kernel
theorem dX2_dropOldest_28 : decode cX2_dropOldest 28 = .ok (.iinc 2 1, 3) := by decide +kernel
theorem dX2_dropOldest_31 : decode cX2_dropOldest 31 = .ok (.goto (-22), 3) := by decide +kernel
theorem dX2_dropOldest_34 : decode cX2_dropOldest 34 = .ok (.aload_n 0, 1) := by decide +kernel
theorem dX2_dropOldest_35 : decode cX2_dropOldest 35 = .ok (.getfield 11, 3) := by decide +kernel
theorem dX2_dropOldest_38 : decode cX2_dropOldest 38 = .ok (.iconst 3, 1) := by decide +kernel
theorem dX2_dropOldest_39 : decode cX2_dropOldest 39 = .ok (.aload_n 1, 1) := by decide +kernel
theorem dX2_dropOldest_40 : decode cX2_dropOldest 40 = .ok (.aastore, 1) := by decide +kernel
theorem dX2_dropOldest_41 : decode cX2_dropOldest 41 = .ok (.aload_n 0, 1) := by decide +kernel
theorem dX2_dropOldest_42 : decode cX2_dropOldest 42 = .ok (.iconst 3, 1) := by decide +kernel
theorem dX2_dropOldest_43 : decode cX2_dropOldest 43 = .ok (.putfield 18, 3) := by decide +kernel
theorem dX2_dropOldest_46 : decode cX2_dropOldest 46 = .ok (.return_, 1) := by decide +kernel
set_option maxRecDepth 20000 in
theorem ggX2_popInto_X1_copyFrom : GoodIn wsX2_popInto wsX1_copyFrom := goodIn_r _ [7, 8, 9, 10, 11, 12, 13, 14, 15, 16, 17, 18, 19, 20, 21, 22, 23, 24, 25, 28, 29, 30, 31, 32, 33, 34, 35, 36] (by decide +kernel) (by decide +kernel)
set_option maxRecDepth 20000 in
theorem gX2_popInto_X1_copyFrom : GoodIn wsX2_popInto (wsV RX2 25 RX1 yX1_copyFrom wsX1_copyFrom) := goodIn_app (goodIn_of _ (by decide +kernel)) ggX2_popInto_X1_copyFrom
theorem dX2_popInto_0 : decode cX2_popInto 0 = .ok (.aload_n 0, 1) := by decide +kernel
theorem dX2_popInto_1 : decode cX2_popInto 1 = .ok (.getfield 18, 3) := by decide +kernel
theorem dX2_popInto_4 : decode cX2_popInto 4 = .ok (.ifCond .gt 4, 3) := by decide +kernel
theorem dX2_popInto_7 : decode cX2_popInto 7 = .ok (.return_, 1) := by decide +kernel
theorem dX2_popInto_8 : decode cX2_popInto 8 = .ok (.aload_n 0, 1) := by decide +kernel
theorem dX2_popInto_9 : decode cX2_popInto 9 = .ok (.dup, 1) := by decide +kernel
theorem dX2_popInto_10 : decode cX2_popInto 10 = .ok (.getfield 18, 3) := by decide +kernel
theorem dX2_popInto_13 : decode cX2_popInto 13 = .ok (.iconst 1, 1) := by decide +kernel
theorem dX2_popInto_14 : decode cX2_popInto 14 = .ok (.isub, 1) := by decide +kernel
theorem dX2_popInto_15 : decode cX2_popInto 15 = .ok (.putfield 18, 3) := by decide +kernel
theorem dX2_popInto_18 : decode cX2_popInto 18 = .ok (.aload_n 1, 1) := by decide +kernel
theorem dX2_popInto_19 : decode cX2_popInto 19 = .ok (.aload_n 0, 1) := by decide +kernel
theorem dX2_popInto_20 : decode cX2_popInto 20 = .ok (.getfield 11, 3) := by decide +kernel
theorem dX2_popInto_23 : decode cX2_popInto 23 = .ok (.aload_n 0, 1) := by decide +kernel
theorem dX2_popInto_24 : decode cX2_popInto 24 = .ok (.getfield 18, 3) := by decide +kernel
theorem dX2_popInto_27 : decode cX2_popInto 27 = .ok (.aaload, 1) := by decide +kernel
theorem dX2_popInto_28 : decode cX2_popInto 28 = .ok (.invokevirtual 25, 3) := by decide +kernel
theorem dX2_popInto_31 : decode cX2_popInto 31 = .ok (.return_, 1) := by decide +kernel
theorem dX3_init_0 : decode cX3_init 0 = .ok (.aload_n 0, 1) := by decide +kernel
theorem dX3_init_1 : decode cX3_init 1 = .ok (.invokespecial 3, 3) := by decide +kernel
theorem dX3_init_4 : decode cX3_init 4 = .ok (.aload_n 0, 1) := by decide +kernel
theorem dX3_init_5 : decode cX3_init 5 = .ok (.bipush 60, 2) := by decide +kernel
theorem dX3_init_7 : decode cX3_init 7 = .ok (.newarray .char, 2) := by decide +kernel
theorem dX3_init_9 : decode cX3_init 9 = .ok (.putfield 9, 3) := by decide +kernel
theorem dX3_init_12 : decode cX3_init 12 = .ok (.aload_n 0, 1) := by decide +kernel
theorem dX3_init_13 : decode cX3_init 13 = .ok (.bipush 30, 2) := by decide +kernel
theorem dX3_init_15 : decode cX3_init 15 = .ok (.newarray .int, 2) := by decide +kernel
theorem dX3_init_17 : decode cX3_init 17 = .ok (.putfield 15, 3) := by decide +kernel
theorem dX3_init_20 : decode cX3_init 20 = .ok (.aload_n 0, 1) := by decide +kernel
theorem dX3_init_21 : decode cX3_init 21 = .ok (.bipush 30, 2) := by decide +kernel
theorem dX3_init_23 : decode cX3_init 23 = .ok (.newarray .int, 2) := by decide +kernel
theorem dX3_init_25 : decode cX3_init 25 = .ok (.putfield 19, 3) := by decide +kernel
theorem dX3_init_28 : decode cX3_init 28 = .ok (.return_, 1) := by decide +kernel
set_option maxRecDepth 20000 in
theorem ggX3_read_X3_noteRange : GoodIn wsX3_read wsX3_noteRange := goodIn_r _ [8, 1, 9, 10, 11, 12, 13, 14, 15] (by decide +kernel) (by decide +kernel)
set_option maxRecDepth 20000 in
theorem gX3_read_X3_noteRange : GoodIn wsX3_read (wsV RX3 29 RX3 yX3_noteRange wsX3_noteRange) := goodIn_app (goodIn_of _ (by decide +kernel)) ggX3_read_X3_noteRange
theorem dX3_read_0 : decode cX3_read 0 = .ok (.aload_n 0, 1) := by decide +kernel
theorem dX3_read_1 : decode cX3_read 1 = .ok (.iconst 0, 1) := by decide +kernel
theorem dX3_read_2 : decode cX3_read 2 = .ok (.putfield 22, 3) := by decide +kernel
theorem dX3_read_5 : decode cX3_read 5 = .ok (.iconst 0, 1) := by decide +kernel
theorem dX3_read_6 : decode cX3_read 6 = .ok (.istore_n 1, 1) := by decide +kernel
theorem dX3_read_7 : decode cX3_read 7 = .ok (.iconst 0, 1) := by decide +kernel
theorem dX3_read_8 : decode cX3_read 8 = .ok (.istore_n 2, 1) := by decide +kernel
theorem dX3_read_9 : decode cX3_read 9 = .ok (.iconst 0, 1) := by decide +kernel
theorem dX3_read_10 : decode cX3_read 10 = .ok (.istore_n 3, 1) := by decide +kernel
theorem dX3_read_11 : decode cX3_read 11 = .ok (.iconst 0, 1) := by decide +kernel
theorem dX3_read_12 : decode cX3_read 12 = .ok (.istore 4, 2) := by decide +kernel
theorem dX3_read_14 : decode cX3_read 14 = .ok (.iconst 0, 1) := by decide +kernel
theorem dX3_read_15 : decode cX3_read 15 = .ok (.istore 5, 2) := by decide +kernel
theorem dX3_read_17 : decode cX3_read 17 = .ok (.iload 5, 2) := by decide +kernel
theorem dX3_read_19 : decode cX3_read 19 = .ok (.aload_n 0, 1) := by decide +kernel
theorem dX3_read_20 : decode cX3_read 20 = .ok (.getfield 26, 3) := by decide +kernel
theorem dX3_read_23 : decode cX3_read 23 = .ok (.if_icmp .ge 133, 3) := by decide +kernel
theorem dX3_read_26 : decode cX3_read 26 = .ok (.aload_n 0, 1) := by decide +kernel
theorem dX3_read_27 : decode cX3_read 27 = .ok (.getfield 9, 3) := by decide +kernel
theorem dX3_read_30 : decode cX3_read 30 = .ok (.iload 5, 2) := by decide +kernel
theorem dX3_read_32 : decode cX3_read 32 = .ok (.caload, 1) := by decide +kernel
theorem dX3_read_33 : decode cX3_read 33 = .ok (.istore 6, 2) := by decide +kernel
theorem dX3_read_35 : decode cX3_read 35 = .ok (.iload 6, 2) := by decide +kernel
theorem dX3_read_37 : decode cX3_read 37 = .ok (.bipush 48, 2) := by decide +kernel
theorem dX3_read_39 : decode cX3_read 39 = .ok (.if_icmp .lt 44, 3) := by decide +kernel
theorem dX3_read_42 : decode cX3_read 42 = .ok (.iload 6, 2) := by decide +kernel
theorem dX3_read_44 : decode cX3_read 44 = .ok (.bipush 57, 2) := by decide +kernel
theorem dX3_read_46 : decode cX3_read 46 = .ok (.if_icmp .gt 37, 3) := by decide +kernel
theorem dX3_read_49 : decode cX3_read 49 = .ok (.iload_n 1, 1) := by decide +kernel
theorem dX3_read_50 : decode cX3_read 50 = .ok (.iconst 4, 1) := by decide +kernel
theorem dX3_read_51 : decode cX3_read 51 = .ok (.if_icmp .eq 12, 3) := by decide +kernel
theorem dX3_read_54 : decode cX3_read 54 = .ok (.iload_n 1, 1) := by decide +kernel
theorem dX3_read_55 : decode cX3_read 55 = .ok (.iconst 1, 1) := by decide +kernel
theorem dX3_read_56 : decode cX3_read 56 = .ok (.if_icmp .ne 10, 3) := by decide +kernel
theorem dX3_read_59 : decode cX3_read 59 = .ok (.iload_n 3, 1) := by decide +kernel
theorem dX3_read_60 : decode cX3_read 60 = .ok (.ifCond .ne 6, 3) := by decide +kernel
theorem dX3_read_63 : decode cX3_read 63 = .ok (.iload 5, 2) := by decide +kernel
theorem dX3_read_65 : decode cX3_read 65 = .ok (.ireturn, 1) := by decide +kernel
theorem dX3_read_66 : decode cX3_read 66 = .ok (.bipush 10, 2) := by decide +kernel
theorem dX3_read_68 : decode cX3_read 68 = .ok (.iload_n 3, 1) := by decide +kernel
theorem dX3_read_69 : decode cX3_read 69 = .ok (.imul, 1) := by decide +kernel
theorem dX3_read_70 : decode cX3_read 70 = .ok (.iload 6, 2) := by decide +kernel
theorem dX3_read_72 : decode cX3_read 72 = .ok (.bipush 48, 2) := by decide +kernel
theorem dX3_read_74 : decode cX3_read 74 = .ok (.isub, 1) := by decide +kernel
theorem dX3_read_75 : decode cX3_read 75 = .ok (.iadd, 1) := by decide +kernel
theorem dX3_read_76 : decode cX3_read 76 = .ok (.istore_n 3, 1) := by decide +kernel
theorem dX3_read_77 : decode cX3_read 77 = .ok (.iinc 1 1, 3) := by decide +kernel
theorem dX3_read_80 : decode cX3_read 80 = .ok (.goto 70, 3) := by decide +kernel
theorem dX3_read_83 : decode cX3_read 83 = .ok (.iload 6, 2) := by decide +kernel
theorem dX3_read_85 : decode cX3_read 85 = .ok (.bipush 45, 2) := by decide +kernel
theorem dX3_read_87 : decode cX3_read 87 = .ok (.if_icmp .ne 24, 3) := by decide +kernel
theorem dX3_read_90 : decode cX3_read 90 = .ok (.iload_n 1, 1) := by decide +kernel
theorem dX3_read_91 : decode cX3_read 91 = .ok (.ifCond .le 20, 3) := by decide +kernel
theorem dX3_read_94 : decode cX3_read 94 = .ok (.iload 4, 2) := by decide +kernel
theorem dX3_read_96 : decode cX3_read 96 = .ok (.ifCond .ne 15, 3) := by decide +kernel
theorem dX3_read_99 : decode cX3_read 99 = .ok (.iload_n 3, 1) := by decide +kernel
theorem dX3_read_100 : decode cX3_read 100 = .ok (.istore_n 2, 1) := by decide +kernel
theorem dX3_read_101 : decode cX3_read 101 = .ok (.iconst 1, 1) := by decide +kernel
theorem dX3_read_102 : decode cX3_read 102 = .ok (.istore 4, 2) := by decide +kernel
theorem dX3_read_104 : decode cX3_read 104 = .ok (.iconst 0, 1) := by decide +kernel
theorem dX3_read_105 : decode cX3_read 105 = .ok (.istore_n 3, 1) := by decide +kernel
theorem dX3_read_106 : decode cX3_read 106 = .ok (.iconst 0, 1) := by decide +kernel
theorem dX3_read_107 : decode cX3_read 107 = .ok (.istore_n 1, 1) := by decide +kernel
theorem dX3_read_108 : decode cX3_read 108 = .ok (.goto 42, 3) := by decide +kernel
theorem dX3_read_111 : decode cX3_read 111 = .ok (.iload 6, 2) := by decide +kernel
theorem dX3_read_113 : decode cX3_read 113 = .ok (.bipush 44, 2) := by decide +kernel
theorem dX3_read_115 : decode cX3_read 115 = .ok (.if_icmp .ne 32, 3) := by decide +kernel
theorem dX3_read_118 : decode cX3_read 118 = .ok (.iload_n 1, 1) := by decide +kernel
theorem dX3_read_119 : decode cX3_read 119 = .ok (.ifCond .le 28, 3) := by decide +kernel
theorem dX3_read_122 : decode cX3_read 122 = .ok (.aload_n 0, 1) := by decide +kernel
theorem dX3_read_123 : decode cX3_read 123 = .ok (.iload 4, 2) := by decide +kernel
theorem dX3_read_125 : decode cX3_read 125 = .ok (.ifCond .eq 7, 3) := by decide +kernel
theorem dX3_read_128 : decode cX3_read 128 = .ok (.iload_n 2, 1) := by decide +kernel
theorem dX3_read_129 : decode cX3_read 129 = .ok (.goto 4, 3) := by decide +kernel
theorem dX3_read_132 : decode cX3_read 132 = .ok (.iload_n 3, 1) := by decide +kernel
theorem dX3_read_133 : decode cX3_read 133 = .ok (.iload_n 3, 1) := by decide +kernel
theorem dX3_read_134 : decode cX3_read 134 = .ok (.invokevirtual 29, 3) := by decide +kernel
theorem dX3_read_137 : decode cX3_read 137 = .ok (.iconst 0, 1) := by decide +kernel
theorem dX3_read_138 : decode cX3_read 138 = .ok (.istore 4, 2) := by decide +kernel
theorem dX3_read_140 : decode cX3_read 140 = .ok (.iconst 0, 1) := by decide +kernel
theorem dX3_read_141 : decode cX3_read 141 = .ok (.istore_n 3, 1) := by decide +kernel
theorem dX3_read_142 : decode cX3_read 142 = .ok (.iconst 0, 1) := by decide +kernel
theorem dX3_read_143 : decode cX3_read 143 = .ok (.istore_n 1, 1) := by decide +kernel
theorem dX3_read_144 : decode cX3_read 144 = .ok (.goto 6, 3) := by decide +kernel
theorem dX3_read_147 : decode cX3_read 147 = .ok (.iload 5, 2) := by decide +kernel
theorem dX3_read_149 : decode cX3_read 149 = .ok (.ireturn, 1) := by decide +kernel
theorem dX3_read_150 : decode cX3_read 150 = .ok (.iinc 5 1, 3) := by decide +kernel
theorem dX3_read_153 : decode cX3_read 153 = .ok (.goto (-136), 3) := by decide +kernel
theorem dX3_read_156 : decode cX3_read 156 = .ok (.iload_n 1, 1) := by decide +kernel
theorem dX3_read_157 : decode cX3_read 157 = .ok (.ifCond .ne 8, 3) := by decide +kernel
theorem dX3_read_160 : decode cX3_read 160 = .ok (.aload_n 0, 1) := by decide +kernel
theorem dX3_read_161 : decode cX3_read 161 = .ok (.getfield 26, 3) := by decide +kernel
theorem dX3_read_164 : decode cX3_read 164 = .ok (.ireturn, 1) := by decide +kernel
theorem dX3_read_165 : decode cX3_read 165 = .ok (.aload_n 0, 1) := by decide +kernel
theorem dX3_read_166 : decode cX3_read 166 = .ok (.iload 4, 2) := by decide +kernel
theorem dX3_read_168 : decode cX3_read 168 = .ok (.ifCond .eq 7, 3) := by decide +kernel
theorem dX3_read_171 : decode cX3_read 171 = .ok (.iload_n 2, 1) := by decide +kernel
theorem dX3_read_172 : decode cX3_read 172 = .ok (.goto 4, 3) := by decide +kernel
theorem dX3_read_175 : decode cX3_read 175 = .ok (.iload_n 3, 1) := by decide +kernel
theorem dX3_read_176 : decode cX3_read 176 = .ok (.iload_n 3, 1) := by decide +kernel
theorem dX3_read_177 : decode cX3_read 177 = .ok (.invokevirtual 29, 3) := by decide +kernel
theorem dX3_read_180 : decode cX3_read 180 = .ok (.iconst (-1), 1) := by decide +kernel
theorem dX3_read_181 : decode cX3_read 181 = .ok (.ireturn, 1) := by decide +kernel
theorem dX3_noteRange_0 : decode cX3_noteRange 0 = .ok (.aload_n 0, 1) := by decide +kernel
theorem dX3_noteRange_1 : decode cX3_noteRange 1 = .ok (.getfield 22, 3) := by decide +kernel
theorem dX3_noteRange_4 : decode cX3_noteRange 4 = .ok (.bipush 30, 2) := by decide +kernel
theorem dX3_noteRange_6 : decode cX3_noteRange 6 = .ok (.if_icmp .ge 33, 3) := by decide +kernel
theorem dX3_noteRange_9 : decode cX3_noteRange 9 = .ok (.aload_n 0, 1) := by decide +kernel
theorem dX3_noteRange_10 : decode cX3_noteRange 10 = .ok (.getfield 15, 3) := by decide +kernel
theorem dX3_noteRange_13 : decode cX3_noteRange 13 = .ok (.aload_n 0, 1) := by decide +kernel
theorem dX3_noteRange_14 : decode cX3_noteRange 14 = .ok (.getfield 22, 3) := by decide +kernel
theorem dX3_noteRange_17 : decode cX3_noteRange 17 = .ok (.iload_n 1, 1) := by decide +kernel
theorem dX3_noteRange_18 : decode cX3_noteRange 18 = .ok (.iastore, 1) := by decide +kernel
theorem dX3_noteRange_19 : decode cX3_noteRange 19 = .ok (.aload_n 0, 1) := by decide +kernel
theorem dX3_noteRange_20 : decode cX3_noteRange 20 = .ok (.getfield 19, 3) := by decide +kernel
theorem dX3_noteRange_23 : decode cX3_noteRange 23 = .ok (.aload_n 0, 1) := by decide +kernel
theorem dX3_noteRange_24 : decode cX3_noteRange 24 = .ok (.getfield 22, 3) := by decide +kernel
theorem dX3_noteRange_27 : decode cX3_noteRange 27 = .ok (.iload_n 2, 1) := by decide +kernel
theorem dX3_noteRange_28 : decode cX3_noteRange 28 = .ok (.iastore, 1) := by decide +kernel
theorem dX3_noteRange_29 : decode cX3_noteRange 29 = .ok (.aload_n 0, 1) := by decide +kernel
theorem dX3_noteRange_30 : decode cX3_noteRange 30 = .ok (.dup, 1) := by decide +kernel
theorem dX3_noteRange_31 : decode cX3_noteRange 31 = .ok (.getfield 22, 3) := by decide +kernel
theorem dX3_noteRange_34 : decode cX3_noteRange 34 = .ok (.iconst 1, 1) := by decide +kernel
theorem dX3_noteRange_35 : decode cX3_noteRange 35 = .ok (.iadd, 1) := by decide +kernel
theorem dX3_noteRange_36 : decode cX3_noteRange 36 = .ok (.putfield 22, 3) := by decide +kernel
theorem dX3_noteRange_39 : decode cX3_noteRange 39 = .ok (.return_, 1) := by decide +kernel
set_option maxRecDepth 20000 in
theorem ggX3_hasGoodValues_X4_isNumber : GoodIn wsX3_hasGoodValues wsX4_isNumber := goodIn_r _ [6] (by decide +kernel) (by decide +kernel)
set_option maxRecDepth 20000 in
theorem gX3_hasGoodValues_X4_isNumber_n33 : GoodIn wsX3_hasGoodValues (wsX4_isNumber) := ggX3_hasGoodValues_X4_isNumber
theorem dX3_hasGoodValues_0 : decode cX3_hasGoodValues 0 = .ok (.iconst 0, 1) := by decide +kernel
theorem dX3_hasGoodValues_1 : decode cX3_hasGoodValues 1 = .ok (.istore_n 1, 1) := by decide +kernel
theorem dX3_hasGoodValues_2 : decode cX3_hasGoodValues 2 = .ok (.iload_n 1, 1) := by decide +kernel
theorem dX3_hasGoodValues_3 : decode cX3_hasGoodValues 3 = .ok (.aload_n 0, 1) := by decide +kernel
theorem dX3_hasGoodValues_4 : decode cX3_hasGoodValues 4 = .ok (.getfield 22, 3) := by decide +kernel
theorem dX3_hasGoodValues_7 : decode cX3_hasGoodValues 7 = .ok (.if_icmp .ge 50, 3) := by decide +kernel
theorem dX3_hasGoodValues_10 : decode cX3_hasGoodValues 10 = .ok (.aload_n 0, 1) := by decide +kernel
theorem dX3_hasGoodValues_11 : decode cX3_hasGoodValues 11 = .ok (.getfield 15, 3) := by decide +kernel
theorem dX3_hasGoodValues_14 : decode cX3_hasGoodValues 14 = .ok (.iload_n 1, 1) := by decide +kernel
theorem dX3_hasGoodValues_15 : decode cX3_hasGoodValues 15 = .ok (.iaload, 1) := by decide +kernel
theorem dX3_hasGoodValues_16 : decode cX3_hasGoodValues 16 = .ok (.invokestatic 33, 3) := by decide +kernel
theorem dX3_hasGoodValues_19 : decode cX3_hasGoodValues 19 = .ok (.ifCond .eq 30, 3) := by decide +kernel
theorem dX3_hasGoodValues_22 : decode cX3_hasGoodValues 22 = .ok (.aload_n 0, 1) := by decide +kernel
theorem dX3_hasGoodValues_23 : decode cX3_hasGoodValues 23 = .ok (.getfield 19, 3) := by decide +kernel
theorem dX3_hasGoodValues_26 : decode cX3_hasGoodValues 26 = .ok (.iload_n 1, 1) := by decide +kernel
theorem dX3_hasGoodValues_27 : decode cX3_hasGoodValues 27 = .ok (.iaload, 1) := by decide +kernel
theorem dX3_hasGoodValues_28 : decode cX3_hasGoodValues 28 = .ok (.invokestatic 33, 3) := by decide +kernel
theorem dX3_hasGoodValues_31 : decode cX3_hasGoodValues 31 = .ok (.ifCond .eq 18, 3) := by decide +kernel
theorem dX3_hasGoodValues_34 : decode cX3_hasGoodValues 34 = .ok (.aload_n 0, 1) := by decide +kernel
theorem dX3_hasGoodValues_35 : decode cX3_hasGoodValues 35 = .ok (.getfield 19, 3) := by decide +kernel
theorem dX3_hasGoodValues_38 : decode cX3_hasGoodValues 38 = .ok (.iload_n 1, 1) := by decide +kernel
theorem dX3_hasGoodValues_39 : decode cX3_hasGoodValues 39 = .ok (.iaload, 1) := by decide +kernel
theorem dX3_hasGoodValues_40 : decode cX3_hasGoodValues 40 = .ok (.aload_n 0, 1) := by decide +kernel
theorem dX3_hasGoodValues_41 : decode cX3_hasGoodValues 41 = .ok (.getfield 15, 3) := by decide +kernel
theorem dX3_hasGoodValues_44 : decode cX3_hasGoodValues 44 = .ok (.iload_n 1, 1) := by decide +kernel
theorem dX3_hasGoodValues_45 : decode cX3_hasGoodValues 45 = .ok (.iaload, 1) := by decide +kernel
theorem dX3_hasGoodValues_46 : decode cX3_hasGoodValues 46 = .ok (.if_icmp .ge 5, 3) := by decide +kernel
theorem dX3_hasGoodValues_49 : decode cX3_hasGoodValues 49 = .ok (.iconst 0, 1) := by decide +kernel
theorem dX3_hasGoodValues_50 : decode cX3_hasGoodValues 50 = .ok (.ireturn, 1) := by decide +kernel
theorem dX3_hasGoodValues_51 : decode cX3_hasGoodValues 51 = .ok (.iinc 1 1, 3) := by decide +kernel
theorem dX3_hasGoodValues_54 : decode cX3_hasGoodValues 54 = .ok (.goto (-52), 3) := by decide +kernel
theorem dX3_hasGoodValues_57 : decode cX3_hasGoodValues 57 = .ok (.iconst 1, 1) := by decide +kernel
theorem dX3_hasGoodValues_58 : decode cX3_hasGoodValues 58 = .ok (.ireturn, 1) := by decide +kernel
set_option maxRecDepth 20000 in
theorem ggX4_init_X1_init : GoodIn wsX4_init wsX1_init := goodIn_r _ [24, 25, 2, 3, 26, 27, 18, 19, 28, 29, 30, 31, 32, 33, 34, 35, 36, 37, 54, 55, 69, 70, 71, 72, 73, 74, 75] (by decide +kernel) (by decide +kernel)
set_option maxRecDepth 20000 in
theorem gX4_init_X1_init : GoodIn wsX4_init (wsX1_init) := ggX4_init_X1_init
set_option maxRecDepth 20000 in
theorem ggX4_init_X2_init : GoodIn wsX4_init wsX2_init := goodIn_r _ [40, 41, 2, 3, 42, 43, 5, 6, 44, 23, 24, 25, 26, 27, 18, 19, 28, 29, 30, 31, 32, 33, 34, 35, 36, 37, 62, 63, 54, 55, 69, 70, 71, 72, 73, 74, 75] (by decide +kernel) (by decide +kernel)
set_option maxRecDepth 20000 in
theorem gX4_init_X2_init : GoodIn wsX4_init (wsX2_init) := ggX4_init_X2_init
set_option maxRecDepth 20000 in
theorem ggX4_init_X3_init : GoodIn wsX4_init wsX3_init := goodIn_r _ [47, 48, 2, 3, 49, 50, 34, 51, 52, 64, 65, 66, 67, 68] (by decide +kernel) (by decide +kernel)
set_option maxRecDepth 20000 in
theorem gX4_init_X3_init : GoodIn wsX4_init (wsX3_init) := ggX4_init_X3_init
set_option maxRecDepth 20000 in
theorem ggX4_init_X0_init : GoodIn wsX4_init wsX0_init := goodIn_r _ [30, 31, 2, 3, 32, 33, 34, 35, 36, 37, 69, 70, 71, 72, 73, 74, 75] (by decide +kernel) (by decide +kernel)
set_option maxRecDepth 20000 in
theorem gX4_init_X0_init : GoodIn wsX4_init (wsX0_init) := ggX4_init_X0_init
theorem dJ13_bitCount_95d88_0 : decode cJ13_bitCount_95d88 0 = .ok (.lload_n 0, 1) := by decide +kernel
theorem dJ13_bitCount_95d88_1 : decode cJ13_bitCount_95d88 1 = .ok (.lload_n 0, 1) := by decide +kernel
theorem dJ13_bitCount_95d88_2 : decode cJ13_bitCount_95d88 2 = .ok (.iconst 1, 1) := by decide +kernel
theorem dJ13_bitCount_95d88_3 : decode cJ13_bitCount_95d88 3 = .ok (.lushr, 1) := by decide +kernel
theorem dJ13_bitCount_95d88_4 : decode cJ13_bitCount_95d88 4 = .ok (.ldc2_w 314, 3) := by decide +kernel
theorem dJ13_bitCount_95d88_7 : decode cJ13_bitCount_95d88 7 = .ok (.land, 1) := by decide +kernel
theorem dJ13_bitCount_95d88_8 : decode cJ13_bitCount_95d88 8 = .ok (.lsub, 1) := by decide +kernel
theorem dJ13_bitCount_95d88_9 : decode cJ13_bitCount_95d88 9 = .ok (.lstore_n 0, 1) := by decide +kernel
theorem dJ13_bitCount_95d88_10 : decode cJ13_bitCount_95d88 10 = .ok (.lload_n 0, 1) := by decide +kernel
theorem dJ13_bitCount_95d88_11 : decode cJ13_bitCount_95d88 11 = .ok (.ldc2_w 316, 3) := by decide +kernel
theorem dJ13_bitCount_95d88_14 : decode cJ13_bitCount_95d88 14 = .ok (.land, 1) := by decide +kernel
theorem dJ13_bitCount_95d88_15 : decode cJ13_bitCount_95d88 15 = .ok (.lload_n 0, 1) := by decide +kernel
theorem dJ13_bitCount_95d88_16 : decode cJ13_bitCount_95d88 16 = .ok (.iconst 2, 1) := by decide +kernel
theorem dJ13_bitCount_95d88_17 : decode cJ13_bitCount_95d88 17 = .ok (.lushr, 1) := by decide +kernel
theorem dJ13_bitCount_95d88_18 : decode cJ13_bitCount_95d88 18 = .ok (.ldc2_w 316, 3) := by decide +kernel
theorem dJ13_bitCount_95d88_21 : decode cJ13_bitCount_95d88 21 = .ok (.land, 1) := by decide +kernel
theorem dJ13_bitCount_95d88_22 : decode cJ13_bitCount_95d88 22 = .ok (.ladd, 1) := by decide +kernel
theorem dJ13_bitCount_95d88_23 : decode cJ13_bitCount_95d88 23 = .ok (.lstore_n 0, 1) := by decide +kernel
theorem dJ13_bitCount_95d88_24 : decode cJ13_bitCount_95d88 24 = .ok (.lload_n 0, 1) := by decide +kernel
theorem dJ13_bitCount_95d88_25 : decode cJ13_bitCount_95d88 25 = .ok (.lload_n 0, 1) := by decide +kernel
theorem dJ13_bitCount_95d88_26 : decode cJ13_bitCount_95d88 26 = .ok (.iconst 4, 1) := by decide +kernel
theorem dJ13_bitCount_95d88_27 : decode cJ13_bitCount_95d88 27 = .ok (.lushr, 1) := by decide +kernel
theorem dJ13_bitCount_95d88_28 : decode cJ13_bitCount_95d88 28 = .ok (.ladd, 1) := by decide +kernel
theorem dJ13_bitCount_95d88_29 : decode cJ13_bitCount_95d88 29 = .ok (.ldc2_w 318, 3) := by decide +kernel
theorem dJ13_bitCount_95d88_32 : decode cJ13_bitCount_95d88 32 = .ok (.land, 1) := by decide +kernel
theorem dJ13_bitCount_95d88_33 : decode cJ13_bitCount_95d88 33 = .ok (.lstore_n 0, 1) := by decide +kernel
theorem dJ13_bitCount_95d88_34 : decode cJ13_bitCount_95d88 34 = .ok (.lload_n 0, 1) := by decide +kernel
theorem dJ13_bitCount_95d88_35 : decode cJ13_bitCount_95d88 35 = .ok (.lload_n 0, 1) := by decide +kernel
theorem dJ13_bitCount_95d88_36 : decode cJ13_bitCount_95d88 36 = .ok (.bipush 8, 2) := by decide +kernel
theorem dJ13_bitCount_95d88_38 : decode cJ13_bitCount_95d88 38 = .ok (.lushr, 1) := by decide +kernel
theorem dJ13_bitCount_95d88_39 : decode cJ13_bitCount_95d88 39 = .ok (.ladd, 1) := by decide +kernel
theorem dJ13_bitCount_95d88_40 : decode cJ13_bitCount_95d88 40 = .ok (.lstore_n 0, 1) := by decide +kernel
theorem dJ13_bitCount_95d88_41 : decode cJ13_bitCount_95d88 41 = .ok (.lload_n 0, 1) := by decide +kernel
theorem dJ13_bitCount_95d88_42 : decode cJ13_bitCount_95d88 42 = .ok (.lload_n 0, 1) := by decide +kernel
theorem dJ13_bitCount_95d88_43 : decode cJ13_bitCount_95d88 43 = .ok (.bipush 16, 2) := by decide +kernel
theorem dJ13_bitCount_95d88_45 : decode cJ13_bitCount_95d88 45 = .ok (.lushr, 1) := by decide +kernel
theorem dJ13_bitCount_95d88_46 : decode cJ13_bitCount_95d88 46 = .ok (.ladd, 1) := by decide +kernel
theorem dJ13_bitCount_95d88_47 : decode cJ13_bitCount_95d88 47 = .ok (.lstore_n 0, 1) := by decide +kernel
theorem dJ13_bitCount_95d88_48 : decode cJ13_bitCount_95d88 48 = .ok (.lload_n 0, 1) := by decide +kernel
theorem dJ13_bitCount_95d88_49 : decode cJ13_bitCount_95d88 49 = .ok (.lload_n 0, 1) := by decide +kernel
theorem dJ13_bitCount_95d88_50 : decode cJ13_bitCount_95d88 50 = .ok (.bipush 32, 2) := by decide +kernel
theorem dJ13_bitCount_95d88_52 : decode cJ13_bitCount_95d88 52 = .ok (.lushr, 1) := by decide +kernel
theorem dJ13_bitCount_95d88_53 : decode cJ13_bitCount_95d88 53 = .ok (.ladd, 1) := by decide +kernel
theorem dJ13_bitCount_95d88_54 : decode cJ13_bitCount_95d88 54 = .ok (.lstore_n 0, 1) := by decide +kernel
theorem dJ13_bitCount_95d88_55 : decode cJ13_bitCount_95d88 55 = .ok (.lload_n 0, 1) := by decide +kernel
theorem dJ13_bitCount_95d88_56 : decode cJ13_bitCount_95d88 56 = .ok (.l2i, 1) := by decide +kernel
theorem dJ13_bitCount_95d88_57 : decode cJ13_bitCount_95d88 57 = .ok (.bipush 127, 2) := by decide +kernel
theorem dJ13_bitCount_95d88_59 : decode cJ13_bitCount_95d88 59 = .ok (.iand, 1) := by decide +kernel
theorem dJ13_bitCount_95d88_60 : decode cJ13_bitCount_95d88 60 = .ok (.ireturn, 1) := by decide +kernel
theorem dJ9_max_7cf53_0 : decode cJ9_max_7cf53 0 = .ok (.iload_n 0, 1) := by decide +kernel
theorem dJ9_max_7cf53_1 : decode cJ9_max_7cf53 1 = .ok (.iload_n 1, 1) := by decide +kernel
theorem dJ9_max_7cf53_2 : decode cJ9_max_7cf53 2 = .ok (.if_icmp .lt 7, 3) := by decide +kernel
theorem dJ9_max_7cf53_5 : decode cJ9_max_7cf53 5 = .ok (.iload_n 0, 1) := by decide +kernel
theorem dJ9_max_7cf53_6 : decode cJ9_max_7cf53 6 = .ok (.goto 4, 3) := by decide +kernel
theorem dJ9_max_7cf53_9 : decode cJ9_max_7cf53 9 = .ok (.iload_n 1, 1) := by decide +kernel
theorem dJ9_max_7cf53_10 : decode cJ9_max_7cf53 10 = .ok (.ireturn, 1) := by decide +kernel
theorem dJ9_min_7cf53_0 : decode cJ9_min_7cf53 0 = .ok (.iload_n 0, 1) := by decide +kernel
theorem dJ9_min_7cf53_1 : decode cJ9_min_7cf53 1 = .ok (.iload_n 1, 1) := by decide +kernel
theorem dJ9_min_7cf53_2 : decode cJ9_min_7cf53 2 = .ok (.if_icmp .gt 7, 3) := by decide +kernel
theorem dJ9_min_7cf53_5 : decode cJ9_min_7cf53 5 = .ok (.iload_n 0, 1) := by decide +kernel
theorem dJ9_min_7cf53_6 : decode cJ9_min_7cf53 6 = .ok (.goto 4, 3) := by decide +kernel
theorem dJ9_min_7cf53_9 : decode cJ9_min_7cf53 9 = .ok (.iload_n 1, 1) := by decide +kernel
theorem dJ9_min_7cf53_10 : decode cJ9_min_7cf53 10 = .ok (.ireturn, 1) := by decide +kernel
theorem dJ7_fill_d0a16_0 : decode cJ7_fill_d0a16 0 = .ok (.iconst 0, 1) := by decide +kernel
theorem dJ7_fill_d0a16_1 : decode cJ7_fill_d0a16 1 = .ok (.istore_n 3, 1) := by decide +kernel
theorem dJ7_fill_d0a16_2 : decode cJ7_fill_d0a16 2 = .ok (.aload_n 0, 1) := by decide +kernel
theorem dJ7_fill_d0a16_3 : decode cJ7_fill_d0a16 3 = .ok (.arraylength, 1) := by decide +kernel
theorem dJ7_fill_d0a16_4 : decode cJ7_fill_d0a16 4 = .ok (.istore 4, 2) := by decide +kernel
theorem dJ7_fill_d0a16_6 : decode cJ7_fill_d0a16 6 = .ok (.iload_n 3, 1) := by decide +kernel
theorem dJ7_fill_d0a16_7 : decode cJ7_fill_d0a16 7 = .ok (.iload 4, 2) := by decide +kernel
theorem dJ7_fill_d0a16_9 : decode cJ7_fill_d0a16 9 = .ok (.if_icmp .ge 13, 3) := by decide +kernel
theorem dJ7_fill_d0a16_12 : decode cJ7_fill_d0a16 12 = .ok (.aload_n 0, 1) := by decide +kernel
theorem dJ7_fill_d0a16_13 : decode cJ7_fill_d0a16 13 = .ok (.iload_n 3, 1) := by decide +kernel
theorem dJ7_fill_d0a16_14 : decode cJ7_fill_d0a16 14 = .ok (.lload_n 1, 1) := by decide +kernel
theorem dJ7_fill_d0a16_15 : decode cJ7_fill_d0a16 15 = .ok (.lastore, 1) := by decide +kernel
theorem dJ7_fill_d0a16_16 : decode cJ7_fill_d0a16 16 = .ok (.iinc 3 1, 3) := by decide +kernel
theorem dJ7_fill_d0a16_19 : decode cJ7_fill_d0a16 19 = .ok (.goto (-13), 3) := by decide +kernel
theorem dJ7_fill_d0a16_22 : decode cJ7_fill_d0a16 22 = .ok (.return_, 1) := by decide +kernel
theorem dJ7_fill_53178_0 : decode cJ7_fill_53178 0 = .ok (.iconst 0, 1) := by decide +kernel
theorem dJ7_fill_53178_1 : decode cJ7_fill_53178 1 = .ok (.istore_n 2, 1) := by decide +kernel
theorem dJ7_fill_53178_2 : decode cJ7_fill_53178 2 = .ok (.aload_n 0, 1) := by decide +kernel
theorem dJ7_fill_53178_3 : decode cJ7_fill_53178 3 = .ok (.arraylength, 1) := by decide +kernel
theorem dJ7_fill_53178_4 : decode cJ7_fill_53178 4 = .ok (.istore_n 3, 1) := by decide +kernel
theorem dJ7_fill_53178_5 : decode cJ7_fill_53178 5 = .ok (.iload_n 2, 1) := by decide +kernel
theorem dJ7_fill_53178_6 : decode cJ7_fill_53178 6 = .ok (.iload_n 3, 1) := by decide +kernel
theorem dJ7_fill_53178_7 : decode cJ7_fill_53178 7 = .ok (.if_icmp .ge 13, 3) := by decide +kernel
theorem dJ7_fill_53178_10 : decode cJ7_fill_53178 10 = .ok (.aload_n 0, 1) := by decide +kernel
theorem dJ7_fill_53178_11 : decode cJ7_fill_53178 11 = .ok (.iload_n 2, 1) := by decide +kernel
theorem dJ7_fill_53178_12 : decode cJ7_fill_53178 12 = .ok (.iload_n 1, 1) := by decide +kernel
theorem dJ7_fill_53178_13 : decode cJ7_fill_53178 13 = .ok (.iastore, 1) := by decide +kernel
theorem dJ7_fill_53178_14 : decode cJ7_fill_53178 14 = .ok (.iinc 2 1, 3) := by decide +kernel
theorem dJ7_fill_53178_17 : decode cJ7_fill_53178 17 = .ok (.goto (-12), 3) := by decide +kernel
theorem dJ7_fill_53178_20 : decode cJ7_fill_53178 20 = .ok (.return_, 1) := by decide +kernel
theorem dX4_isNumber_0 : decode cX4_isNumber 0 = .ok (.iload_n 0, 1) := by decide +kernel
theorem dX4_isNumber_1 : decode cX4_isNumber 1 = .ok (.ifCond .lt 14, 3) := by decide +kernel
theorem dX4_isNumber_4 : decode cX4_isNumber 4 = .ok (.iload_n 0, 1) := by decide +kernel
theorem dX4_isNumber_5 : decode cX4_isNumber 5 = .ok (.sipush 2048, 3) := by decide +kernel
theorem dX4_isNumber_8 : decode cX4_isNumber 8 = .ok (.if_icmp .ge 7, 3) := by decide +kernel
theorem dX4_isNumber_11 : decode cX4_isNumber 11 = .ok (.iconst 1, 1) := by decide +kernel
theorem dX4_isNumber_12 : decode cX4_isNumber 12 = .ok (.goto 4, 3) := by decide +kernel
theorem dX4_isNumber_15 : decode cX4_isNumber 15 = .ok (.iconst 0, 1) := by decide +kernel
theorem dX4_isNumber_16 : decode cX4_isNumber 16 = .ok (.ireturn, 1) := by decide +kernel
theorem dX4_join_0 : decode cX4_join 0 = .ok (.iload_n 0, 1) := by decide +kernel
theorem dX4_join_1 : decode cX4_join 1 = .ok (.tableswitch 43 0 2 #[27, 31, 35], 27) := by decide +kernel
theorem dX4_join_28 : decode cX4_join 28 = .ok (.lload_n 1, 1) := by decide +kernel
theorem dX4_join_29 : decode cX4_join 29 = .ok (.lload_n 3, 1) := by decide +kernel
theorem dX4_join_30 : decode cX4_join 30 = .ok (.lor, 1) := by decide +kernel
theorem dX4_join_31 : decode cX4_join 31 = .ok (.lreturn, 1) := by decide +kernel
theorem dX4_join_32 : decode cX4_join 32 = .ok (.lload_n 1, 1) := by decide +kernel
theorem dX4_join_33 : decode cX4_join 33 = .ok (.lload_n 3, 1) := by decide +kernel
theorem dX4_join_34 : decode cX4_join 34 = .ok (.land, 1) := by decide +kernel
theorem dX4_join_35 : decode cX4_join 35 = .ok (.lreturn, 1) := by decide +kernel
theorem dX4_join_36 : decode cX4_join 36 = .ok (.lload_n 1, 1) := by decide +kernel
theorem dX4_join_37 : decode cX4_join 37 = .ok (.lload_n 3, 1) := by decide +kernel
theorem dX4_join_38 : decode cX4_join 38 = .ok (.ldc2_w 217, 3) := by decide +kernel
theorem dX4_join_41 : decode cX4_join 41 = .ok (.lxor, 1) := by decide +kernel
theorem dX4_join_42 : decode cX4_join 42 = .ok (.land, 1) := by decide +kernel
theorem dX4_join_43 : decode cX4_join 43 = .ok (.lreturn, 1) := by decide +kernel
theorem dX4_join_44 : decode cX4_join 44 = .ok (.lload_n 1, 1) := by decide +kernel
theorem dX4_join_45 : decode cX4_join 45 = .ok (.lload_n 3, 1) := by decide +kernel
theorem dX4_join_46 : decode cX4_join 46 = .ok (.lxor, 1) := by decide +kernel
theorem dX4_join_47 : decode cX4_join 47 = .ok (.lreturn, 1) := by decide +kernel
end
section
/-! The base: one memory for the class and the reference together, by roles; a judgement V that hides heap, frame and locals' array -/
abbrev Lk : Type := Launch × (Nat → Nat) × va_G × (Nat → ClassId) × (Nat → Prop)
abbrev Kx : Type := Program × Env × Room × State × MethodId × Array Value × List Frame × Method × Code × Nat × Nat × Nat × (State → Prop)
abbrev Mem : Type := Nat → va_E
abbrev Lvs : Type := List (Nat × Value)
/-- the reference to the cell of a role -/
abbrev rf (Λ : Lk) (r : Nat) : Value := .ref (Λ.2.1 r)
def nR : Nat := 212
def wl (ad : Nat → Nat) (C : Mem) : va_W := (List.range nR).map fun r => (ad r, C r)
theorem wl_get {ad : Nat → Nat} {C : Mem} {r : Nat} (h : r < nR) : (wl ad C)[r]? = some (ad r, C r) := by
  simp [wl, List.getElem?_range h]
theorem wl_set {ad : Nat → Nat} {C : Mem} {r : Nat} {e : va_E} (h : r < nR) : (wl ad C).set r (ad r, e) = wl ad (va_up C r e) := by
  have hl : r < (wl ad C).length := by simp [wl]; exact h
  apply List.ext_getElem?
  intro j
  by_cases hj : j = r
  · subst hj
    rw [List.getElem?_set_self hl, wl_get h, va_up_self]
  · rw [List.getElem?_set_ne (Ne.symm hj)]
    by_cases hn : j < nR
    · rw [wl_get hn, wl_get hn, va_up_ne _ _ hj]
    · rw [List.getElem?_eq_none (by simp [wl]; omega), List.getElem?_eq_none (by simp [wl]; omega)]
/-- the array classes: longs, ints, chars, rows of fleets, rows of harbours -/
def tysOf (cy : Nat → ClassId) : List (ClassId × FieldType) := [(cy 0, .long), (cy 1, .int), (cy 2, .char), (cy 3, .object "BoatSets$Fleet"), (cy 4, .object "BoatSets$Harbour")]
/-- the links among nest mates -/
def nst : List Cond := [.methodLinkNest RX0 54 yX4_isNumber "BoatSets", .methodLinkNest RX0 97 yX4_join "BoatSets", .methodLinkNest RX3 33 yX4_isNumber "BoatSets"]
theorem nst_warm {s U : State} (hW : s.WarmedH U.vm) (h : ∀ w ∈ nst, va_Nw w s) : ∀ w ∈ nst, va_Nw w U := by
  intro w hw
  have h1 := h w hw
  simp only [nst, List.mem_cons, List.not_mem_nil, or_false] at hw
  rcases hw with rfl | rfl | rfl <;> exact va_Nw.warmM hW h1
theorem nst_same {u U : State} (hv : u.vm = U.vm) (h : ∀ w ∈ nst, va_Nw w u) : ∀ w ∈ nst, va_Nw w U := by
  intro w hw
  have h1 := h w hw
  simp only [nst, List.mem_cons, List.not_mem_nil, or_false] at hw
  rcases hw with rfl | rfl | rfl <;> exact va_Nw.same rfl hv h1
/-- a state holds the memory C -/
def Hld (Λ : Lk) (C : Mem) (U : State) : Prop := va_P Λ.2.2.1 vwCl (wl Λ.2.1 C) U.heap ∧ va_D Λ.2.2.2.2 (wl Λ.2.1 C) ∧ va_K Λ.2.2.1 vwCl (tysOf Λ.2.2.2.1) U ∧ ∀ w ∈ nst, va_Nw w U
theorem Hld.blind {Λ : Lk} {C : Mem} {av : List Value} : FrameBlind (va_Pc av (Hld Λ C)) := fun a U g mk q => by
  obtain ⟨h0, h1, h2, h3, h4⟩ := q
  exact ⟨h0, h1, h2, va_K.moved (u := U) (U := U.calling g mk a) (Vm.Alike.refl U.vm) h3, nst_same (u := U) (U := U.calling g mk a) rfl h4⟩
/-- an end: the answer rv, the memory C -/
def QQ (Λ : Lk) (rv : Option Value) (C : Mem) : Array Value → State → Outcome → State → Prop := fun _ st oc t => (oc = .returned rv ∧ va_P Λ.2.2.1 vwCl (wl Λ.2.1 C) t.heap ∧ va_D Λ.2.2.2.2 (wl Λ.2.1 C)) ∧ va_F Λ.2.2.2.2 st t
/-- a contract: with the arguments av over the memory C the method answers rv and leaves C2 -/
def Con (Λ : Lk) (y : MethodName) (ws : List Cond) (rm : Room) (av : List Value) (C : Mem) (rv : Option Value) (C2 : Mem) : Prop := Met Λ.1 y ws rm (va_Pc av (Hld Λ C)) (QQ Λ rv C2) 0 0 Λ.2.2.2.2
/-- the judgement: from the memory C, at pc, with these locals and this stack, the goal is reached -/
def V (Λ : Lk) : Kx → Mem → Nat → Lvs → List Value → Prop
  | (p, e, R, s, m, args, below, meth, c, nL, kc, ks, Q), C, pc, lv, st => ∀ (H : Heap) (locs : List Loc) (ls : Array Slot), va_P Λ.2.2.1 vwCl (wl Λ.2.1 C) H → va_D Λ.2.2.2.2 (wl Λ.2.1 C) → va_S Λ.2.2.2.2 s.heap H locs → lv_has ls nL lv → W p Λ.1 e R s m args below meth c H locs kc ks Q (F0 m pc ls st)
/-- what every row needs: the machine, the code, the room, the words, the tables -/
def Ok (Λ : Lk) (R0 : Room) (cc : ByteArray) (Ts : List Cond) (own : String) (nL0 : Nat) : Kx → Prop
  | (p, _, R, s, m, args, _, _, c, nL, kc, ks, _) => CallFix p m c cc nL s args Ts own ∧ R = R0 ∧ nL = nL0 ∧ va_K Λ.2.2.1 vwCl (tysOf Λ.2.2.2.1) s ∧ (∀ w ∈ nst, va_Nw w s) ∧ kc ≤ R.cells ∧ ks ≤ R.slots
/-- what an end needs -/
def Rt (Λ : Lk) (ret : Option FieldType) (rv : Option Value) (C : Mem) : Kx → Prop
  | (_, _, _, s, _, args, below, meth, _, _, kc, ks, Q) => Q = MQ below (QQ Λ rv C) args s kc ks Λ.2.2.2.2 ∧ meth.sig.returnType = ret ∧ meth.locks = false
theorem con_start {Λ : Lk} {y : MethodName} {ws ws' : List Cond} {rm : Room} {cc : ByteArray} {maxL : Nat} {ret : Option FieldType} {av : List Value} {C C2 : Mem} {rv : Option Value} (hy : plainName y.cls = true) (hw : ws = Cond.code y cc maxL ret :: ws') (hn : (lg_sl av).length ≤ maxL)
    (body : ∀ κ : Kx, Ok Λ rm cc ws y.cls maxL κ → Rt Λ ret rv C2 κ → V Λ κ C 0 (lv_args 0 av) []) : Con Λ y ws rm av C rv C2 := by
  refine Met.ofW (cc := cc) (maxL := maxL) (ret := ret) hy hw ?_
  intro p e s m args below meth c s₁ B hml hv
  obtain ⟨rfl, hP, hD, hK, hN⟩ := hv
  have hts := atoms_spec (ws := ws) B.pre
  have h := body (p, e, (headSpec ws rm).room, s, m, av.toArray, below, meth, c, maxL, 0, 0, MQ below (QQ Λ rv C2) av.toArray s 0 0 Λ.2.2.2.2) ⟨⟨B.exec, B.bytes, hml, findClass_of_methodNamed B.named, hts⟩, rfl, rfl, hK, hN, Nat.zero_le _, Nat.zero_le _⟩ ⟨rfl, B.returns, B.notSynchronized⟩
  rw [lg_entry_eq]
  exact h s.heap [] _ hP hD va_S.rf (lv_entry av hn)
section ROWS
variable {Λ : Lk} {κ : Kx} {R0 : Room} {cc : ByteArray} {Ts : List Cond} {own : String} {nL0 : Nat} {C : Mem} {pc : Nat} {lv : Lvs} {st : List Value}
theorem v_sub (ks : List Nat) {lv' : Lvs} (h : lv_pick lv ks = lv') (k : V Λ κ C pc lv' st) : V Λ κ C pc lv st := by
  obtain ⟨p, e, R, s, m, args, below, meth, c, nL, kc, ks', Q⟩ := κ
  exact fun H locs ls hP hD hS hl => k H locs ls hP hD hS (lv_sub hl ks h)
theorem v_args {lv' : Lvs} (h : lv = lv') (k : V Λ κ C pc lv' st) : V Λ κ C pc lv st := h ▸ k
theorem v_st {st' : List Value} (h : st = st') (k : V Λ κ C pc lv st') : V Λ κ C pc lv st := h ▸ k
theorem v_mem {C' : Mem} (h : C = C') (k : V Λ κ C' pc lv st) : V Λ κ C pc lv st := h ▸ k
theorem v_top {v v' : Value} (h : v = v') (k : V Λ κ C pc lv (v' :: st)) : V Λ κ C pc lv (v :: st) := h ▸ k
theorem v_topi {x y : Int32} (h : x = y) (k : V Λ κ C pc lv (.int y :: st)) : V Λ κ C pc lv (.int x :: st) := h ▸ k
theorem v_topl {x y : Int64} (h : x = y) (k : V Λ κ C pc lv (.long y :: st)) : V Λ κ C pc lv (.long x :: st) := h ▸ k
theorem v_iconst (hC : Ok Λ R0 cc Ts own nL0 κ) {n : Int} {v : Int32} (hdg : decode cc pc = .ok (.iconst n, 1)) (hv : Int32.ofInt n = v) (k : V Λ κ C (pc + 1) lv (.int v :: st)) : V Λ κ C pc lv st := by
  obtain ⟨p, e, R, s, m, args, below, meth, c, nL, kc, ks', Q⟩ := κ
  exact fun H locs ls hP hD hS hl => lv_iconst hC.1.1 hC.1.2.1 hdg hv (k H locs ls hP hD hS hl)
theorem v_bipush (hC : Ok Λ R0 cc Ts own nL0 κ) {n : Int} {v : Int32} (hdg : decode cc pc = .ok (.bipush n, 2)) (hv : (Int8.ofInt n).toInt32 = v) (k : V Λ κ C (pc + 2) lv (.int v :: st)) : V Λ κ C pc lv st := by
  obtain ⟨p, e, R, s, m, args, below, meth, c, nL, kc, ks', Q⟩ := κ
  exact fun H locs ls hP hD hS hl => lv_bipush hC.1.1 hC.1.2.1 hdg hv (k H locs ls hP hD hS hl)
theorem v_sipush (hC : Ok Λ R0 cc Ts own nL0 κ) {n : Int} {v : Int32} (hdg : decode cc pc = .ok (.sipush n, 3)) (hv : (Int16.ofInt n).toInt32 = v) (k : V Λ κ C (pc + 3) lv (.int v :: st)) : V Λ κ C pc lv st := by
  obtain ⟨p, e, R, s, m, args, below, meth, c, nL, kc, ks', Q⟩ := κ
  exact fun H locs ls hP hD hS hl => lv_sipush hC.1.1 hC.1.2.1 hdg hv (k H locs ls hP hD hS hl)
theorem v_lconst (hC : Ok Λ R0 cc Ts own nL0 κ) {n : Fin 2} {v : Int64} (hdg : decode cc pc = .ok (.lconst n, 1)) (hv : Int64.ofNat (n : Nat) = v) (k : V Λ κ C (pc + 1) lv (.long v :: st)) : V Λ κ C pc lv st := by
  obtain ⟨p, e, R, s, m, args, below, meth, c, nL, kc, ks', Q⟩ := κ
  exact fun H locs ls hP hD hS hl => lv_lconst hC.1.1 hC.1.2.1 hdg hv (k H locs ls hP hD hS hl)
theorem v_ldc2 (hC : Ok Λ R0 cc Ts own nL0 κ) {index : Nat} {v : Int64} (hdg : decode cc pc = .ok (.ldc2_w index, 3)) (hw : Jvm.Cond.constantLong own index v ∈ Ts) (k : V Λ κ C (pc + 3) lv (.long v :: st)) : V Λ κ C pc lv st := by
  obtain ⟨p, e, R, s, m, args, below, meth, c, nL, kc, ks', Q⟩ := κ
  exact fun H locs ls hP hD hS hl => lv_ldc2 hC.1.1 hC.1.2.1 hC.1.2.2.2.1 (hC.1.2.2.2.2 _ hw) hdg (k H locs ls hP hD hS hl)
theorem v_iload_n (hC : Ok Λ R0 cc Ts own nL0 κ) {i : Fin 4} {x : Int32} (hdg : decode cc pc = .ok (.iload_n i, 1)) (j : Nat) (hj : lv[j]? = some ((i : Nat), .int x)) (k : V Λ κ C (pc + 1) lv (.int x :: st)) : V Λ κ C pc lv st := by
  obtain ⟨p, e, R, s, m, args, below, meth, c, nL, kc, ks', Q⟩ := κ
  exact fun H locs ls hP hD hS hl => lv_iload_n hC.1.1 hC.1.2.1 hdg rfl (lv_at hl j hj) (k H locs ls hP hD hS hl)
theorem v_iload (hC : Ok Λ R0 cc Ts own nL0 κ) {i : Nat} {x : Int32} (hdg : decode cc pc = .ok (.iload i, 2)) (j : Nat) (hj : lv[j]? = some (i, .int x)) (k : V Λ κ C (pc + 2) lv (.int x :: st)) : V Λ κ C pc lv st := by
  obtain ⟨p, e, R, s, m, args, below, meth, c, nL, kc, ks', Q⟩ := κ
  exact fun H locs ls hP hD hS hl => lv_iload hC.1.1 hC.1.2.1 hdg (lv_at hl j hj) (k H locs ls hP hD hS hl)
theorem v_lload_n (hC : Ok Λ R0 cc Ts own nL0 κ) {i : Fin 4} {x : Int64} (hdg : decode cc pc = .ok (.lload_n i, 1)) (j : Nat) (hj : lv[j]? = some ((i : Nat), .long x)) (k : V Λ κ C (pc + 1) lv (.long x :: st)) : V Λ κ C pc lv st := by
  obtain ⟨p, e, R, s, m, args, below, meth, c, nL, kc, ks', Q⟩ := κ
  exact fun H locs ls hP hD hS hl => lv_lload_n hC.1.1 hC.1.2.1 hdg rfl (lv_at hl j hj) (k H locs ls hP hD hS hl)
theorem v_lload (hC : Ok Λ R0 cc Ts own nL0 κ) {i : Nat} {x : Int64} (hdg : decode cc pc = .ok (.lload i, 2)) (j : Nat) (hj : lv[j]? = some (i, .long x)) (k : V Λ κ C (pc + 2) lv (.long x :: st)) : V Λ κ C pc lv st := by
  obtain ⟨p, e, R, s, m, args, below, meth, c, nL, kc, ks', Q⟩ := κ
  exact fun H locs ls hP hD hS hl => lv_lload hC.1.1 hC.1.2.1 hdg (lv_at hl j hj) (k H locs ls hP hD hS hl)
theorem v_aload_n (hC : Ok Λ R0 cc Ts own nL0 κ) {i : Fin 4} {x : Nat} (hdg : decode cc pc = .ok (.aload_n i, 1)) (j : Nat) (hj : lv[j]? = some ((i : Nat), .ref x)) (k : V Λ κ C (pc + 1) lv (.ref x :: st)) : V Λ κ C pc lv st := by
  obtain ⟨p, e, R, s, m, args, below, meth, c, nL, kc, ks', Q⟩ := κ
  exact fun H locs ls hP hD hS hl => lv_aload_n hC.1.1 hC.1.2.1 hdg rfl (lv_at hl j hj) (k H locs ls hP hD hS hl)
theorem v_aload (hC : Ok Λ R0 cc Ts own nL0 κ) {i : Nat} {x : Nat} (hdg : decode cc pc = .ok (.aload i, 2)) (j : Nat) (hj : lv[j]? = some (i, .ref x)) (k : V Λ κ C (pc + 2) lv (.ref x :: st)) : V Λ κ C pc lv st := by
  obtain ⟨p, e, R, s, m, args, below, meth, c, nL, kc, ks', Q⟩ := κ
  exact fun H locs ls hP hD hS hl => lv_aload hC.1.1 hC.1.2.1 hdg (lv_at hl j hj) (k H locs ls hP hD hS hl)
theorem v_istore_n (hC : Ok Λ R0 cc Ts own nL0 κ) {i : Fin 4} {x : Int32} {lv' : Lvs} (hdg : decode cc pc = .ok (.istore_n i, 1)) (hn : (i : Nat) < nL0) (hv : ((i : Nat), Value.int x) :: lv.filter (fun q => !(q.1 == (i : Nat)) && !(q.1 + 1 == (i : Nat) && q.2.category == 2)) = lv') (k : V Λ κ C (pc + 1) lv' st) : V Λ κ C pc lv (.int x :: st) := by
  obtain ⟨p, e, R, s, m, args, below, meth, c, nL, kc, ks', Q⟩ := κ
  exact fun H locs ls hP hD hS hl => lv_istore_n hC.1.1 hC.1.2.1 hdg rfl hl (by rw [hC.2.2.1]; exact hn) hv (fun ls hl => k H locs ls hP hD hS hl)
theorem v_istore (hC : Ok Λ R0 cc Ts own nL0 κ) {i : Nat} {x : Int32} {lv' : Lvs} (hdg : decode cc pc = .ok (.istore i, 2)) (hn : i < nL0) (hv : (i, Value.int x) :: lv.filter (fun q => !(q.1 == i) && !(q.1 + 1 == i && q.2.category == 2)) = lv') (k : V Λ κ C (pc + 2) lv' st) : V Λ κ C pc lv (.int x :: st) := by
  obtain ⟨p, e, R, s, m, args, below, meth, c, nL, kc, ks', Q⟩ := κ
  exact fun H locs ls hP hD hS hl => lv_istore hC.1.1 hC.1.2.1 hdg hl (by rw [hC.2.2.1]; exact hn) hv (fun ls hl => k H locs ls hP hD hS hl)
theorem v_lstore_n (hC : Ok Λ R0 cc Ts own nL0 κ) {i : Fin 4} {x : Int64} {lv' : Lvs} (hdg : decode cc pc = .ok (.lstore_n i, 1)) (hn : (i : Nat) + 1 < nL0) (hv : ((i : Nat), Value.long x) :: lv.filter (fun q => !(q.1 == (i : Nat)) && (!(q.1 == (i : Nat) + 1) && !(q.1 + 1 == (i : Nat) && q.2.category == 2))) = lv') (k : V Λ κ C (pc + 1) lv' st) : V Λ κ C pc lv (.long x :: st) := by
  obtain ⟨p, e, R, s, m, args, below, meth, c, nL, kc, ks', Q⟩ := κ
  exact fun H locs ls hP hD hS hl => lv_lstore_n hC.1.1 hC.1.2.1 hdg rfl hl (by rw [hC.2.2.1]; exact hn) hv (fun ls hl => k H locs ls hP hD hS hl)
theorem v_lstore (hC : Ok Λ R0 cc Ts own nL0 κ) {i : Nat} {x : Int64} {lv' : Lvs} (hdg : decode cc pc = .ok (.lstore i, 2)) (hn : i + 1 < nL0) (hv : (i, Value.long x) :: lv.filter (fun q => !(q.1 == i) && (!(q.1 == i + 1) && !(q.1 + 1 == i && q.2.category == 2))) = lv') (k : V Λ κ C (pc + 2) lv' st) : V Λ κ C pc lv (.long x :: st) := by
  obtain ⟨p, e, R, s, m, args, below, meth, c, nL, kc, ks', Q⟩ := κ
  exact fun H locs ls hP hD hS hl => lv_lstore hC.1.1 hC.1.2.1 hdg hl (by rw [hC.2.2.1]; exact hn) hv (fun ls hl => k H locs ls hP hD hS hl)
theorem v_astore_n (hC : Ok Λ R0 cc Ts own nL0 κ) {i : Fin 4} {x : Nat} {lv' : Lvs} (hdg : decode cc pc = .ok (.astore_n i, 1)) (hn : (i : Nat) < nL0) (hv : ((i : Nat), Value.ref x) :: lv.filter (fun q => !(q.1 == (i : Nat)) && !(q.1 + 1 == (i : Nat) && q.2.category == 2)) = lv') (k : V Λ κ C (pc + 1) lv' st) : V Λ κ C pc lv (.ref x :: st) := by
  obtain ⟨p, e, R, s, m, args, below, meth, c, nL, kc, ks', Q⟩ := κ
  exact fun H locs ls hP hD hS hl => lv_astore_n hC.1.1 hC.1.2.1 hdg rfl hl (by rw [hC.2.2.1]; exact hn) hv (fun ls hl => k H locs ls hP hD hS hl)
theorem v_astore (hC : Ok Λ R0 cc Ts own nL0 κ) {i : Nat} {x : Nat} {lv' : Lvs} (hdg : decode cc pc = .ok (.astore i, 2)) (hn : i < nL0) (hv : (i, Value.ref x) :: lv.filter (fun q => !(q.1 == i) && !(q.1 + 1 == i && q.2.category == 2)) = lv') (k : V Λ κ C (pc + 2) lv' st) : V Λ κ C pc lv (.ref x :: st) := by
  obtain ⟨p, e, R, s, m, args, below, meth, c, nL, kc, ks', Q⟩ := κ
  exact fun H locs ls hP hD hS hl => lv_astore hC.1.1 hC.1.2.1 hdg hl (by rw [hC.2.2.1]; exact hn) hv (fun ls hl => k H locs ls hP hD hS hl)
theorem v_iinc (hC : Ok Λ R0 cc Ts own nL0 κ) {i j : Nat} {n : Int} {x v : Int32} {lv' : Lvs} (hdg : decode cc pc = .ok (.iinc i n, 3)) (hk : lv[j]? = some (i, .int x)) (hx : x + Int32.ofInt n = v) (hn : i < nL0) (hv : (i, Value.int v) :: lv.filter (fun q => !(q.1 == i) && !(q.1 + 1 == i && q.2.category == 2)) = lv') (k : V Λ κ C (pc + 3) lv' st) : V Λ κ C pc lv st := by
  obtain ⟨p, e, R, s, m, args, below, meth, c, nL, kc, ks', Q⟩ := κ
  exact fun H locs ls hP hD hS hl => lv_iinc hC.1.1 hC.1.2.1 hdg hl hk hx (by rw [hC.2.2.1]; exact hn) hv (fun ls hl => k H locs ls hP hD hS hl)
theorem v_iadd (hC : Ok Λ R0 cc Ts own nL0 κ) {x y : Int32} (hdg : decode cc pc = .ok (.iadd, 1)) (k : V Λ κ C (pc + 1) lv (.int (x + y) :: st)) : V Λ κ C pc lv (.int y :: .int x :: st) := by
  obtain ⟨p, e, R, s, m, args, below, meth, c, nL, kc, ks', Q⟩ := κ
  exact fun H locs ls hP hD hS hl => lv_iadd hC.1.1 hC.1.2.1 hdg (k H locs ls hP hD hS hl)
theorem v_isub (hC : Ok Λ R0 cc Ts own nL0 κ) {x y : Int32} (hdg : decode cc pc = .ok (.isub, 1)) (k : V Λ κ C (pc + 1) lv (.int (x - y) :: st)) : V Λ κ C pc lv (.int y :: .int x :: st) := by
  obtain ⟨p, e, R, s, m, args, below, meth, c, nL, kc, ks', Q⟩ := κ
  exact fun H locs ls hP hD hS hl => lv_isub hC.1.1 hC.1.2.1 hdg (k H locs ls hP hD hS hl)
theorem v_imul (hC : Ok Λ R0 cc Ts own nL0 κ) {x y : Int32} (hdg : decode cc pc = .ok (.imul, 1)) (k : V Λ κ C (pc + 1) lv (.int (x * y) :: st)) : V Λ κ C pc lv (.int y :: .int x :: st) := by
  obtain ⟨p, e, R, s, m, args, below, meth, c, nL, kc, ks', Q⟩ := κ
  exact fun H locs ls hP hD hS hl => lv_imul hC.1.1 hC.1.2.1 hdg (k H locs ls hP hD hS hl)
theorem v_iand (hC : Ok Λ R0 cc Ts own nL0 κ) {x y : Int32} (hdg : decode cc pc = .ok (.iand, 1)) (k : V Λ κ C (pc + 1) lv (.int (x &&& y) :: st)) : V Λ κ C pc lv (.int y :: .int x :: st) := by
  obtain ⟨p, e, R, s, m, args, below, meth, c, nL, kc, ks', Q⟩ := κ
  exact fun H locs ls hP hD hS hl => lv_iand hC.1.1 hC.1.2.1 hdg (k H locs ls hP hD hS hl)
theorem v_ior (hC : Ok Λ R0 cc Ts own nL0 κ) {x y : Int32} (hdg : decode cc pc = .ok (.ior, 1)) (k : V Λ κ C (pc + 1) lv (.int (x ||| y) :: st)) : V Λ κ C pc lv (.int y :: .int x :: st) := by
  obtain ⟨p, e, R, s, m, args, below, meth, c, nL, kc, ks', Q⟩ := κ
  exact fun H locs ls hP hD hS hl => lv_ior hC.1.1 hC.1.2.1 hdg (k H locs ls hP hD hS hl)
theorem v_ixor (hC : Ok Λ R0 cc Ts own nL0 κ) {x y : Int32} (hdg : decode cc pc = .ok (.ixor, 1)) (k : V Λ κ C (pc + 1) lv (.int (x ^^^ y) :: st)) : V Λ κ C pc lv (.int y :: .int x :: st) := by
  obtain ⟨p, e, R, s, m, args, below, meth, c, nL, kc, ks', Q⟩ := κ
  exact fun H locs ls hP hD hS hl => lv_ixor hC.1.1 hC.1.2.1 hdg (k H locs ls hP hD hS hl)
theorem v_idiv (hC : Ok Λ R0 cc Ts own nL0 κ) {x y : Int32} (hdg : decode cc pc = .ok (.idiv, 1)) (hne : ¬ y = 0) (k : V Λ κ C (pc + 1) lv (.int (x / y) :: st)) : V Λ κ C pc lv (.int y :: .int x :: st) := by
  obtain ⟨p, e, R, s, m, args, below, meth, c, nL, kc, ks', Q⟩ := κ
  exact fun H locs ls hP hD hS hl => lv_idiv hC.1.1 hC.1.2.1 hdg hne (k H locs ls hP hD hS hl)
theorem v_irem (hC : Ok Λ R0 cc Ts own nL0 κ) {x y : Int32} (hdg : decode cc pc = .ok (.irem, 1)) (hne : ¬ y = 0) (k : V Λ κ C (pc + 1) lv (.int (x - x / y * y) :: st)) : V Λ κ C pc lv (.int y :: .int x :: st) := by
  obtain ⟨p, e, R, s, m, args, below, meth, c, nL, kc, ks', Q⟩ := κ
  exact fun H locs ls hP hD hS hl => lv_irem hC.1.1 hC.1.2.1 hdg hne (k H locs ls hP hD hS hl)
theorem v_ishl (hC : Ok Λ R0 cc Ts own nL0 κ) {x y : Int32} (hdg : decode cc pc = .ok (.ishl, 1)) (k : V Λ κ C (pc + 1) lv (.int (x <<< (y &&& 31)) :: st)) : V Λ κ C pc lv (.int y :: .int x :: st) := by
  obtain ⟨p, e, R, s, m, args, below, meth, c, nL, kc, ks', Q⟩ := κ
  exact fun H locs ls hP hD hS hl => lv_ishl hC.1.1 hC.1.2.1 hdg (k H locs ls hP hD hS hl)
theorem v_ishr (hC : Ok Λ R0 cc Ts own nL0 κ) {x y : Int32} (hdg : decode cc pc = .ok (.ishr, 1)) (k : V Λ κ C (pc + 1) lv (.int (x >>> (y &&& 31)) :: st)) : V Λ κ C pc lv (.int y :: .int x :: st) := by
  obtain ⟨p, e, R, s, m, args, below, meth, c, nL, kc, ks', Q⟩ := κ
  exact fun H locs ls hP hD hS hl => lv_ishr hC.1.1 hC.1.2.1 hdg (k H locs ls hP hD hS hl)
theorem v_ladd (hC : Ok Λ R0 cc Ts own nL0 κ) {x y : Int64} (hdg : decode cc pc = .ok (.ladd, 1)) (k : V Λ κ C (pc + 1) lv (.long (x + y) :: st)) : V Λ κ C pc lv (.long y :: .long x :: st) := by
  obtain ⟨p, e, R, s, m, args, below, meth, c, nL, kc, ks', Q⟩ := κ
  exact fun H locs ls hP hD hS hl => lv_ladd hC.1.1 hC.1.2.1 hdg (k H locs ls hP hD hS hl)
theorem v_lsub (hC : Ok Λ R0 cc Ts own nL0 κ) {x y : Int64} (hdg : decode cc pc = .ok (.lsub, 1)) (k : V Λ κ C (pc + 1) lv (.long (x - y) :: st)) : V Λ κ C pc lv (.long y :: .long x :: st) := by
  obtain ⟨p, e, R, s, m, args, below, meth, c, nL, kc, ks', Q⟩ := κ
  exact fun H locs ls hP hD hS hl => lv_lsub hC.1.1 hC.1.2.1 hdg (k H locs ls hP hD hS hl)
theorem v_land (hC : Ok Λ R0 cc Ts own nL0 κ) {x y : Int64} (hdg : decode cc pc = .ok (.land, 1)) (k : V Λ κ C (pc + 1) lv (.long (x &&& y) :: st)) : V Λ κ C pc lv (.long y :: .long x :: st) := by
  obtain ⟨p, e, R, s, m, args, below, meth, c, nL, kc, ks', Q⟩ := κ
  exact fun H locs ls hP hD hS hl => lv_land hC.1.1 hC.1.2.1 hdg (k H locs ls hP hD hS hl)
theorem v_lor (hC : Ok Λ R0 cc Ts own nL0 κ) {x y : Int64} (hdg : decode cc pc = .ok (.lor, 1)) (k : V Λ κ C (pc + 1) lv (.long (x ||| y) :: st)) : V Λ κ C pc lv (.long y :: .long x :: st) := by
  obtain ⟨p, e, R, s, m, args, below, meth, c, nL, kc, ks', Q⟩ := κ
  exact fun H locs ls hP hD hS hl => lv_lor hC.1.1 hC.1.2.1 hdg (k H locs ls hP hD hS hl)
theorem v_lxor (hC : Ok Λ R0 cc Ts own nL0 κ) {x y : Int64} (hdg : decode cc pc = .ok (.lxor, 1)) (k : V Λ κ C (pc + 1) lv (.long (x ^^^ y) :: st)) : V Λ κ C pc lv (.long y :: .long x :: st) := by
  obtain ⟨p, e, R, s, m, args, below, meth, c, nL, kc, ks', Q⟩ := κ
  exact fun H locs ls hP hD hS hl => lv_lxor hC.1.1 hC.1.2.1 hdg (k H locs ls hP hD hS hl)
theorem v_lneg (hC : Ok Λ R0 cc Ts own nL0 κ) {x : Int64} (hdg : decode cc pc = .ok (.lneg, 1)) (k : V Λ κ C (pc + 1) lv (.long (-x) :: st)) : V Λ κ C pc lv (.long x :: st) := by
  obtain ⟨p, e, R, s, m, args, below, meth, c, nL, kc, ks', Q⟩ := κ
  exact fun H locs ls hP hD hS hl => lv_lneg hC.1.1 hC.1.2.1 hdg (k H locs ls hP hD hS hl)
theorem v_lcmp (hC : Ok Λ R0 cc Ts own nL0 κ) {x y : Int64} (hdg : decode cc pc = .ok (.lcmp, 1)) (k : V Λ κ C (pc + 1) lv (.int (lg_cmp x y) :: st)) : V Λ κ C pc lv (.long y :: .long x :: st) := by
  obtain ⟨p, e, R, s, m, args, below, meth, c, nL, kc, ks', Q⟩ := κ
  exact fun H locs ls hP hD hS hl => W.lcmp hC.1.1 hC.1.2.1 hdg (k H locs ls hP hD hS hl)
theorem v_lshl (hC : Ok Λ R0 cc Ts own nL0 κ) {x v : Int64} {y : Int32} (hdg : decode cc pc = .ok (.lshl, 1)) (hv : x <<< (y.toInt64 &&& 63) = v) (k : V Λ κ C (pc + 1) lv (.long v :: st)) : V Λ κ C pc lv (.int y :: .long x :: st) := by
  obtain ⟨p, e, R, s, m, args, below, meth, c, nL, kc, ks', Q⟩ := κ
  exact fun H locs ls hP hD hS hl => lv_lshl hC.1.1 hC.1.2.1 hdg hv (k H locs ls hP hD hS hl)
theorem v_lushr (hC : Ok Λ R0 cc Ts own nL0 κ) {x v : Int64} {y : Int32} (hdg : decode cc pc = .ok (.lushr, 1)) (hv : (x.toUInt64 >>> (y.toInt64.toUInt64 &&& Int64.toUInt64 63)).toInt64 = v) (k : V Λ κ C (pc + 1) lv (.long v :: st)) : V Λ κ C pc lv (.int y :: .long x :: st) := by
  obtain ⟨p, e, R, s, m, args, below, meth, c, nL, kc, ks', Q⟩ := κ
  exact fun H locs ls hP hD hS hl => lv_lushr hC.1.1 hC.1.2.1 hdg hv (k H locs ls hP hD hS hl)
theorem v_l2i (hC : Ok Λ R0 cc Ts own nL0 κ) {x : Int64} {v : Int32} (hdg : decode cc pc = .ok (.l2i, 1)) (hv : x.toInt32 = v) (k : V Λ κ C (pc + 1) lv (.int v :: st)) : V Λ κ C pc lv (.long x :: st) := by
  obtain ⟨p, e, R, s, m, args, below, meth, c, nL, kc, ks', Q⟩ := κ
  exact fun H locs ls hP hD hS hl => lv_l2i hC.1.1 hC.1.2.1 hdg hv (k H locs ls hP hD hS hl)
theorem v_i2c (hC : Ok Λ R0 cc Ts own nL0 κ) {x v : Int32} (hdg : decode cc pc = .ok (.i2c, 1)) (hv : (x.toUInt32 % 65536).toInt32 = v) (k : V Λ κ C (pc + 1) lv (.int v :: st)) : V Λ κ C pc lv (.int x :: st) := by
  obtain ⟨p, e, R, s, m, args, below, meth, c, nL, kc, ks', Q⟩ := κ
  exact fun H locs ls hP hD hS hl => lv_i2c hC.1.1 hC.1.2.1 hdg hv (k H locs ls hP hD hS hl)
theorem v_dup (hC : Ok Λ R0 cc Ts own nL0 κ) {va : Value} (hdg : decode cc pc = .ok (.dup, 1)) (hva : va.category = 1) (k : V Λ κ C (pc + 1) lv (va :: va :: st)) : V Λ κ C pc lv (va :: st) := by
  obtain ⟨p, e, R, s, m, args, below, meth, c, nL, kc, ks', Q⟩ := κ
  exact fun H locs ls hP hD hS hl => lv_dup hC.1.1 hC.1.2.1 hdg hva (k H locs ls hP hD hS hl)
theorem v_pop (hC : Ok Λ R0 cc Ts own nL0 κ) {va : Value} (hdg : decode cc pc = .ok (.pop, 1)) (hva : va.category = 1) (k : V Λ κ C (pc + 1) lv st) : V Λ κ C pc lv (va :: st) := by
  obtain ⟨p, e, R, s, m, args, below, meth, c, nL, kc, ks', Q⟩ := κ
  exact fun H locs ls hP hD hS hl => lv_pop hC.1.1 hC.1.2.1 hdg hva (k H locs ls hP hD hS hl)
theorem v_dup2 (hC : Ok Λ R0 cc Ts own nL0 κ) {va vb : Value} (hdg : decode cc pc = .ok (.dup2, 1)) (hva : va.category = 1) (hvb : vb.category = 1) (k : V Λ κ C (pc + 1) lv (va :: vb :: va :: vb :: st)) : V Λ κ C pc lv (va :: vb :: st) := by
  obtain ⟨p, e, R, s, m, args, below, meth, c, nL, kc, ks', Q⟩ := κ
  exact fun H locs ls hP hD hS hl => lv_dup2_11 hC.1.1 hC.1.2.1 hdg hva hvb (k H locs ls hP hD hS hl)
theorem v_goto (hC : Ok Λ R0 cc Ts own nL0 κ) {off : Int} {tgt : Nat} (hdg : decode cc pc = .ok (.goto off, 3)) (ht : (pc : Int) + off = (tgt : Int)) (k : V Λ κ C tgt lv st) : V Λ κ C pc lv st := by
  obtain ⟨p, e, R, s, m, args, below, meth, c, nL, kc, ks', Q⟩ := κ
  exact fun H locs ls hP hD hS hl => lv_goto hC.1.1 hC.1.2.1 hdg ht (k H locs ls hP hD hS hl)
theorem v_if_eq (hC : Ok Λ R0 cc Ts own nL0 κ) {x : Int32} {off : Int} {tgt : Nat} (hdg : decode cc pc = .ok (.ifCond .eq off, 3)) (ht : (pc : Int) + off = (tgt : Int)) (kt : x = 0 → V Λ κ C tgt lv st) (kf : ¬ x = 0 → V Λ κ C (pc + 3) lv st) : V Λ κ C pc lv (.int x :: st) := by
  obtain ⟨p, e, R, s, m, args, below, meth, c, nL, kc, ks', Q⟩ := κ
  exact fun H locs ls hP hD hS hl => lv_if_eq hC.1.1 hC.1.2.1 hdg ht (fun h => kt h H locs ls hP hD hS hl) (fun h => kf h H locs ls hP hD hS hl)
theorem v_if_ne (hC : Ok Λ R0 cc Ts own nL0 κ) {x : Int32} {off : Int} {tgt : Nat} (hdg : decode cc pc = .ok (.ifCond .ne off, 3)) (ht : (pc : Int) + off = (tgt : Int)) (kt : ¬ x = 0 → V Λ κ C tgt lv st) (kf : x = 0 → V Λ κ C (pc + 3) lv st) : V Λ κ C pc lv (.int x :: st) := by
  obtain ⟨p, e, R, s, m, args, below, meth, c, nL, kc, ks', Q⟩ := κ
  exact fun H locs ls hP hD hS hl => lv_if_ne hC.1.1 hC.1.2.1 hdg ht (fun h => kt h H locs ls hP hD hS hl) (fun h => kf h H locs ls hP hD hS hl)
theorem v_if_lt (hC : Ok Λ R0 cc Ts own nL0 κ) {x : Int32} {off : Int} {tgt : Nat} (hdg : decode cc pc = .ok (.ifCond .lt off, 3)) (ht : (pc : Int) + off = (tgt : Int)) (kt : x < 0 → V Λ κ C tgt lv st) (kf : ¬ x < 0 → V Λ κ C (pc + 3) lv st) : V Λ κ C pc lv (.int x :: st) := by
  obtain ⟨p, e, R, s, m, args, below, meth, c, nL, kc, ks', Q⟩ := κ
  exact fun H locs ls hP hD hS hl => lv_if_lt hC.1.1 hC.1.2.1 hdg ht (fun h => kt h H locs ls hP hD hS hl) (fun h => kf h H locs ls hP hD hS hl)
theorem v_if_ge (hC : Ok Λ R0 cc Ts own nL0 κ) {x : Int32} {off : Int} {tgt : Nat} (hdg : decode cc pc = .ok (.ifCond .ge off, 3)) (ht : (pc : Int) + off = (tgt : Int)) (kt : 0 ≤ x → V Λ κ C tgt lv st) (kf : ¬ 0 ≤ x → V Λ κ C (pc + 3) lv st) : V Λ κ C pc lv (.int x :: st) := by
  obtain ⟨p, e, R, s, m, args, below, meth, c, nL, kc, ks', Q⟩ := κ
  exact fun H locs ls hP hD hS hl => lv_if_ge hC.1.1 hC.1.2.1 hdg ht (fun h => kt h H locs ls hP hD hS hl) (fun h => kf h H locs ls hP hD hS hl)
theorem v_if_gt (hC : Ok Λ R0 cc Ts own nL0 κ) {x : Int32} {off : Int} {tgt : Nat} (hdg : decode cc pc = .ok (.ifCond .gt off, 3)) (ht : (pc : Int) + off = (tgt : Int)) (kt : 0 < x → V Λ κ C tgt lv st) (kf : ¬ 0 < x → V Λ κ C (pc + 3) lv st) : V Λ κ C pc lv (.int x :: st) := by
  obtain ⟨p, e, R, s, m, args, below, meth, c, nL, kc, ks', Q⟩ := κ
  exact fun H locs ls hP hD hS hl => lv_if_gt hC.1.1 hC.1.2.1 hdg ht (fun h => kt h H locs ls hP hD hS hl) (fun h => kf h H locs ls hP hD hS hl)
theorem v_if_le (hC : Ok Λ R0 cc Ts own nL0 κ) {x : Int32} {off : Int} {tgt : Nat} (hdg : decode cc pc = .ok (.ifCond .le off, 3)) (ht : (pc : Int) + off = (tgt : Int)) (kt : x ≤ 0 → V Λ κ C tgt lv st) (kf : ¬ x ≤ 0 → V Λ κ C (pc + 3) lv st) : V Λ κ C pc lv (.int x :: st) := by
  obtain ⟨p, e, R, s, m, args, below, meth, c, nL, kc, ks', Q⟩ := κ
  exact fun H locs ls hP hD hS hl => lv_if_le hC.1.1 hC.1.2.1 hdg ht (fun h => kt h H locs ls hP hD hS hl) (fun h => kf h H locs ls hP hD hS hl)
theorem v_icmp_eq (hC : Ok Λ R0 cc Ts own nL0 κ) {x y : Int32} {off : Int} {tgt : Nat} (hdg : decode cc pc = .ok (.if_icmp .eq off, 3)) (ht : (pc : Int) + off = (tgt : Int)) (kt : x = y → V Λ κ C tgt lv st) (kf : ¬ x = y → V Λ κ C (pc + 3) lv st) : V Λ κ C pc lv (.int y :: .int x :: st) := by
  obtain ⟨p, e, R, s, m, args, below, meth, c, nL, kc, ks', Q⟩ := κ
  exact fun H locs ls hP hD hS hl => lv_icmp_eq hC.1.1 hC.1.2.1 hdg ht (fun h => kt h H locs ls hP hD hS hl) (fun h => kf h H locs ls hP hD hS hl)
theorem v_icmp_ne (hC : Ok Λ R0 cc Ts own nL0 κ) {x y : Int32} {off : Int} {tgt : Nat} (hdg : decode cc pc = .ok (.if_icmp .ne off, 3)) (ht : (pc : Int) + off = (tgt : Int)) (kt : ¬ x = y → V Λ κ C tgt lv st) (kf : x = y → V Λ κ C (pc + 3) lv st) : V Λ κ C pc lv (.int y :: .int x :: st) := by
  obtain ⟨p, e, R, s, m, args, below, meth, c, nL, kc, ks', Q⟩ := κ
  exact fun H locs ls hP hD hS hl => lv_icmp_ne hC.1.1 hC.1.2.1 hdg ht (fun h => kt h H locs ls hP hD hS hl) (fun h => kf h H locs ls hP hD hS hl)
theorem v_icmp_lt (hC : Ok Λ R0 cc Ts own nL0 κ) {x y : Int32} {off : Int} {tgt : Nat} (hdg : decode cc pc = .ok (.if_icmp .lt off, 3)) (ht : (pc : Int) + off = (tgt : Int)) (kt : x < y → V Λ κ C tgt lv st) (kf : ¬ x < y → V Λ κ C (pc + 3) lv st) : V Λ κ C pc lv (.int y :: .int x :: st) := by
  obtain ⟨p, e, R, s, m, args, below, meth, c, nL, kc, ks', Q⟩ := κ
  exact fun H locs ls hP hD hS hl => lv_icmp_lt hC.1.1 hC.1.2.1 hdg ht (fun h => kt h H locs ls hP hD hS hl) (fun h => kf h H locs ls hP hD hS hl)
theorem v_icmp_ge (hC : Ok Λ R0 cc Ts own nL0 κ) {x y : Int32} {off : Int} {tgt : Nat} (hdg : decode cc pc = .ok (.if_icmp .ge off, 3)) (ht : (pc : Int) + off = (tgt : Int)) (kt : y ≤ x → V Λ κ C tgt lv st) (kf : ¬ y ≤ x → V Λ κ C (pc + 3) lv st) : V Λ κ C pc lv (.int y :: .int x :: st) := by
  obtain ⟨p, e, R, s, m, args, below, meth, c, nL, kc, ks', Q⟩ := κ
  exact fun H locs ls hP hD hS hl => lv_icmp_ge hC.1.1 hC.1.2.1 hdg ht (fun h => kt h H locs ls hP hD hS hl) (fun h => kf h H locs ls hP hD hS hl)
theorem v_icmp_gt (hC : Ok Λ R0 cc Ts own nL0 κ) {x y : Int32} {off : Int} {tgt : Nat} (hdg : decode cc pc = .ok (.if_icmp .gt off, 3)) (ht : (pc : Int) + off = (tgt : Int)) (kt : y < x → V Λ κ C tgt lv st) (kf : ¬ y < x → V Λ κ C (pc + 3) lv st) : V Λ κ C pc lv (.int y :: .int x :: st) := by
  obtain ⟨p, e, R, s, m, args, below, meth, c, nL, kc, ks', Q⟩ := κ
  exact fun H locs ls hP hD hS hl => lv_icmp_gt hC.1.1 hC.1.2.1 hdg ht (fun h => kt h H locs ls hP hD hS hl) (fun h => kf h H locs ls hP hD hS hl)
theorem v_icmp_le (hC : Ok Λ R0 cc Ts own nL0 κ) {x y : Int32} {off : Int} {tgt : Nat} (hdg : decode cc pc = .ok (.if_icmp .le off, 3)) (ht : (pc : Int) + off = (tgt : Int)) (kt : x ≤ y → V Λ κ C tgt lv st) (kf : ¬ x ≤ y → V Λ κ C (pc + 3) lv st) : V Λ κ C pc lv (.int y :: .int x :: st) := by
  obtain ⟨p, e, R, s, m, args, below, meth, c, nL, kc, ks', Q⟩ := κ
  exact fun H locs ls hP hD hS hl => lv_icmp_le hC.1.1 hC.1.2.1 hdg ht (fun h => kt h H locs ls hP hD hS hl) (fun h => kf h H locs ls hP hD hS hl)
-- heap: fields
theorem v_get (hC : Ok Λ R0 cc Ts own nL0 κ) {Cn : String} {T : u_T} {N ci index : Nat} {fs : List Value} {v : Value} (r : Nat) (hr : r < nR) (he : C r = .inr (ci, fs)) (hin : ∀ w ∈ u_ws Cn T N, w ∈ Ts) (hc : vwCl[ci]? = some (Cn, T, N)) (k : Nat) (hk : k < N) (hlink : Cond.fieldLink own index (T k).1 (T k).2.1 (T k).2.2.1 ∈ Ts) (hv : fs[k]? = some v) (hdg : decode cc pc = .ok (.getfield index, 3))
    (kk : V Λ κ C (pc + 3) lv (v :: st)) : V Λ κ C pc lv (rf Λ r :: st) := by
  obtain ⟨p, e, R, s, m, args, below, meth, c, nL, kc, ks', Q⟩ := κ
  intro H locs ls hP hD hS hl
  refine va_get (D := Λ.2.2.1) (ci := ci) (v := v) (C := Cn) (T := T) (N := N) (fs := fs) hC.1.1 hC.1.2.1 hC.1.2.2.2.2 hin hC.1.2.2.2.1 hC.2.2.2.1 hP r ?_ hc k hk (hC.1.2.2.2.2 _ hlink) (fun _ h9 => h9) hv hdg (kk H locs ls hP hD hS hl)
  rw [wl_get hr, he]
theorem v_put (hC : Ok Λ R0 cc Ts own nL0 κ) {Cn : String} {T : u_T} {N ci index : Nat} {fs : List Value} {v : Value} {ty : FieldType} (r : Nat) (hr : r < nR) (he : C r = .inr (ci, fs)) (hin : ∀ w ∈ u_ws Cn T N, w ∈ Ts) (ty0 : Nat → FieldType) (hty : ∀ k, k < N → parseFieldDescriptor (T k).2.2.1 = some (ty0 k)) (hnm : ∀ a, a < N → ∀ b, b < N → a ≠ b → (T a).2.1 ≠ (T b).2.1) (hc : vwCl[ci]? = some (Cn, T, N)) (k : Nat) (hk : k < N) (hlink : Cond.fieldLink own index (T k).1 (T k).2.1 (T k).2.2.1 ∈ Ts) (hfin : (T k).2.2.2 = false) (hd : parseFieldDescriptor (T k).2.2.1 = some ty) (hn : narrow ty v = v) (hfit : fits ty v = true) (hl : k < fs.length) (hdg : decode cc pc = .ok (.putfield index, 3))
    (kk : V Λ κ (va_up C r (.inr (ci, fs.set k v))) (pc + 3) lv st) : V Λ κ C pc lv (v :: rf Λ r :: st) := by
  obtain ⟨p, e, R, s, m, args, below, meth, c, nL, kc, ks', Q⟩ := κ
  intro H locs ls hP hD hS hls
  refine va_put (D := Λ.2.2.1) (ci := ci) (v := v) (ty := ty) (C := Cn) (T := T) (N := N) (fs := fs) hC.1.1 hC.1.2.1 hC.1.2.2.2.2 hin ty0 hty hnm hC.1.2.2.2.1 hC.2.2.2.1 hP hD hS r ?_ hc k hk (hC.1.2.2.2.2 _ hlink) (fun _ h9 => h9) hfin hd hn hfit hl hdg (fun H1 locs1 hP1 hD1 hS1 => ?_)
  · rw [wl_get hr, he]
  · rw [wl_set hr] at hP1 hD1
    exact kk H1 locs1 ls hP1 hD1 hS1 hls
-- heap: arrays
theorem v_iald (hC : Ok Λ R0 cc Ts own nL0 κ) {n : Nat} {f : Nat → Int32} {x : Int32} (r : Nat) (hr : r < nR) (he : C r = .inl (Λ.2.2.2.1 1, n, .inl f)) (j : Nat) (hx : x = nI j) (hj : j < n) (hn : n < 2 ^ 31) (hdg : decode cc pc = .ok (.iaload, 1))
    (kk : V Λ κ C (pc + 1) lv (.int (f j) :: st)) : V Λ κ C pc lv (.int x :: rf Λ r :: st) := by
  subst hx
  obtain ⟨p, e, R, s, m, args, below, meth, c, nL, kc, ks', Q⟩ := κ
  intro H locs ls hP hD hS hl
  refine va_iald hC.1.1 hC.1.2.1 hC.2.2.2.1 hP r 1 (by rw [wl_get hr, he]) rfl (vp_in_nI hj hn) hdg ?_
  rw [nI_clamp (Nat.lt_trans hj hn)]
  exact kk H locs ls hP hD hS hl
theorem v_cald (hC : Ok Λ R0 cc Ts own nL0 κ) {n : Nat} {f : Nat → Int32} {x : Int32} (r : Nat) (hr : r < nR) (he : C r = .inl (Λ.2.2.2.1 2, n, .inl f)) (j : Nat) (hx : x = nI j) (hj : j < n) (hn : n < 2 ^ 31) (hdg : decode cc pc = .ok (.caload, 1))
    (kk : V Λ κ C (pc + 1) lv (.int (f j) :: st)) : V Λ κ C pc lv (.int x :: rf Λ r :: st) := by
  subst hx
  obtain ⟨p, e, R, s, m, args, below, meth, c, nL, kc, ks', Q⟩ := κ
  intro H locs ls hP hD hS hl
  refine va_cald hC.1.1 hC.1.2.1 hC.2.2.2.1 hP r 2 (by rw [wl_get hr, he]) rfl (vp_in_nI hj hn) hdg ?_
  rw [nI_clamp (Nat.lt_trans hj hn)]
  exact kk H locs ls hP hD hS hl
theorem v_lald (hC : Ok Λ R0 cc Ts own nL0 κ) {n : Nat} {f : Nat → Int64} {x : Int32} (r : Nat) (hr : r < nR) (he : C r = .inl (Λ.2.2.2.1 0, n, .inr (.inl f))) (j : Nat) (hx : x = nI j) (hj : j < n) (hn : n < 2 ^ 31) (hdg : decode cc pc = .ok (.laload, 1))
    (kk : V Λ κ C (pc + 1) lv (.long (f j) :: st)) : V Λ κ C pc lv (.int x :: rf Λ r :: st) := by
  subst hx
  obtain ⟨p, e, R, s, m, args, below, meth, c, nL, kc, ks', Q⟩ := κ
  intro H locs ls hP hD hS hl
  refine va_lald hC.1.1 hC.1.2.1 hC.2.2.2.1 hP r 0 (by rw [wl_get hr, he]) rfl (vp_in_nI hj hn) hdg ?_
  rw [nI_clamp (Nat.lt_trans hj hn)]
  exact kk H locs ls hP hD hS hl
theorem v_aald (hC : Ok Λ R0 cc Ts own nL0 κ) {n : Nat} {f : Nat → Option Nat} {x : Int32} (r : Nat) (hr : r < nR) (t : Nat) {Cn : String} (ht : (tysOf Λ.2.2.2.1)[t]? = some (Λ.2.2.2.1 t, .object Cn)) (he : C r = .inl (Λ.2.2.2.1 t, n, .inr (.inr (.inr (.inr f))))) (j : Nat) (hx : x = nI j) (hj : j < n) (hn : n < 2 ^ 31) {r2 : Nat} (hf : f j = some (Λ.2.1 r2)) (hdg : decode cc pc = .ok (.aaload, 1))
    (kk : V Λ κ C (pc + 1) lv (rf Λ r2 :: st)) : V Λ κ C pc lv (.int x :: rf Λ r :: st) := by
  subst hx
  obtain ⟨p, e, R, s, m, args, below, meth, c, nL, kc, ks', Q⟩ := κ
  intro H locs ls hP hD hS hl
  refine va_aldq hC.1.1 hC.1.2.1 hC.2.2.2.1 hP r t (by rw [wl_get hr, he]) ht (vp_in_nI hj hn) hdg ?_
  rw [nI_clamp (Nat.lt_trans hj hn), hf]
  exact kk H locs ls hP hD hS hl
theorem v_iast (hC : Ok Λ R0 cc Ts own nL0 κ) {n : Nat} {f : Nat → Int32} {x y : Int32} (r : Nat) (hr : r < nR) (he : C r = .inl (Λ.2.2.2.1 1, n, .inl f)) (j : Nat) (hx : x = nI j) (hj : j < n) (hn : n < 2 ^ 31) (hdg : decode cc pc = .ok (.iastore, 1))
    (kk : V Λ κ (va_up C r (.inl (Λ.2.2.2.1 1, n, .inl (upd f j y)))) (pc + 1) lv st) : V Λ κ C pc lv (.int y :: .int x :: rf Λ r :: st) := by
  subst hx
  obtain ⟨p, e, R, s, m, args, below, meth, c, nL, kc, ks', Q⟩ := κ
  intro H locs ls hP hD hS hl
  refine va_iast hC.1.1 hC.1.2.1 hC.2.2.2.1 hP hD hS r 1 (by rw [wl_get hr, he]) rfl (vp_in_nI hj hn) hdg (fun H1 locs1 hP1 hD1 hS1 => ?_)
  rw [wl_set hr, nI_clamp (Nat.lt_trans hj hn)] at hP1 hD1
  exact kk H1 locs1 ls hP1 hD1 hS1 hl
theorem v_cast (hC : Ok Λ R0 cc Ts own nL0 κ) {n : Nat} {f : Nat → Int32} {x y : Int32} (r : Nat) (hr : r < nR) (he : C r = .inl (Λ.2.2.2.1 2, n, .inl f)) (j : Nat) (hx : x = nI j) (hj : j < n) (hn : n < 2 ^ 31) (hdg : decode cc pc = .ok (.castore, 1))
    (kk : V Λ κ (va_up C r (.inl (Λ.2.2.2.1 2, n, .inl (upd f j (vp_nar .char y))))) (pc + 1) lv st) : V Λ κ C pc lv (.int y :: .int x :: rf Λ r :: st) := by
  subst hx
  obtain ⟨p, e, R, s, m, args, below, meth, c, nL, kc, ks', Q⟩ := κ
  intro H locs ls hP hD hS hl
  refine va_cast hC.1.1 hC.1.2.1 hC.2.2.2.1 hP hD hS r 2 (by rw [wl_get hr, he]) rfl (vp_in_nI hj hn) hdg (fun H1 locs1 hP1 hD1 hS1 => ?_)
  rw [wl_set hr, nI_clamp (Nat.lt_trans hj hn)] at hP1 hD1
  exact kk H1 locs1 ls hP1 hD1 hS1 hl
theorem v_last (hC : Ok Λ R0 cc Ts own nL0 κ) {n : Nat} {f : Nat → Int64} {x : Int32} {y : Int64} (r : Nat) (hr : r < nR) (he : C r = .inl (Λ.2.2.2.1 0, n, .inr (.inl f))) (j : Nat) (hx : x = nI j) (hj : j < n) (hn : n < 2 ^ 31) (hdg : decode cc pc = .ok (.lastore, 1))
    (kk : V Λ κ (va_up C r (.inl (Λ.2.2.2.1 0, n, .inr (.inl (vp_updL f j y))))) (pc + 1) lv st) : V Λ κ C pc lv (.long y :: .int x :: rf Λ r :: st) := by
  subst hx
  obtain ⟨p, e, R, s, m, args, below, meth, c, nL, kc, ks', Q⟩ := κ
  intro H locs ls hP hD hS hl
  refine va_last hC.1.1 hC.1.2.1 hC.2.2.2.1 hP hD hS r 0 (by rw [wl_get hr, he]) rfl (vp_in_nI hj hn) hdg (fun H1 locs1 hP1 hD1 hS1 => ?_)
  rw [wl_set hr, nI_clamp (Nat.lt_trans hj hn)] at hP1 hD1
  exact kk H1 locs1 ls hP1 hD1 hS1 hl
theorem v_aast (hC : Ok Λ R0 cc Ts own nL0 κ) {n ci : Nat} {f : Nat → Option Nat} {fs : List Value} {cn : vw_C} {x : Int32} (r r2 : Nat) (hr : r < nR) (hr2 : r2 < nR) (t : Nat) (ht : (tysOf Λ.2.2.2.1)[t]? = some (Λ.2.2.2.1 t, .object cn.1)) (he : C r = .inl (Λ.2.2.2.1 t, n, .inr (.inr (.inr (.inr f))))) (he2 : C r2 = .inr (ci, fs)) (hc : vwCl[ci]? = some cn) (j : Nat) (hx : x = nI j) (hj : j < n) (hn : n < 2 ^ 31) (hdg : decode cc pc = .ok (.aastore, 1))
    (kk : V Λ κ (va_up C r (.inl (Λ.2.2.2.1 t, n, .inr (.inr (.inr (.inr (va_up f j (some (Λ.2.1 r2)))))))))  (pc + 1) lv st) : V Λ κ C pc lv (rf Λ r2 :: .int x :: rf Λ r :: st) := by
  subst hx
  obtain ⟨p, e, R, s, m, args, below, meth, c, nL, kc, ks', Q⟩ := κ
  intro H locs ls hP hD hS hl
  refine va_astq hC.1.1 hC.1.2.1 hC.2.2.2.1 hP hD hS r t r2 ci (by rw [wl_get hr, he]) ht (by rw [wl_get hr2, he2]) hc (vp_in_nI hj hn) hdg (fun H1 locs1 hP1 hD1 hS1 => ?_)
  rw [wl_set hr, nI_clamp (Nat.lt_trans hj hn)] at hP1 hD1
  exact kk H1 locs1 ls hP1 hD1 hS1 hl
theorem v_alen (hC : Ok Λ R0 cc Ts own nL0 κ) {n : Nat} {cA : ClassId} {x : (Nat → Int32) ⊕ (Nat → Int64) ⊕ (Nat → UInt32) ⊕ (Nat → UInt64) ⊕ (Nat → Option Nat)} (r : Nat) (hr : r < nR) (t : Nat) {ty : FieldType} (ht : (tysOf Λ.2.2.2.1)[t]? = some (cA, ty)) (he : C r = .inl (cA, n, x)) (hdg : decode cc pc = .ok (.arraylength, 1))
    (kk : V Λ κ C (pc + 1) lv (.int (nI n) :: st)) : V Λ κ C pc lv (rf Λ r :: st) := by
  obtain ⟨p, e, R, s, m, args, below, meth, c, nL, kc, ks', Q⟩ := κ
  intro H locs ls hP hD hS hl
  exact va_alen (x := (n, x)) hC.1.1 hC.1.2.1 hC.2.2.2.1 hP r t (by rw [wl_get hr, he]) ht rfl hdg (kk H locs ls hP hD hS hl)
-- arraycopy
theorem v_copyi (hC : Ok Λ R0 cc Ts own nL0 κ) {index n0 n1 : Nat} {f g : Nat → Int32} {n : Int32} (r0 r1 : Nat) (hr0 : r0 < nR) (hr1 : r1 < nR) (he0 : C r0 = .inl (Λ.2.2.2.1 1, n0, .inl f)) (he1 : C r1 = .inl (Λ.2.2.2.1 1, n1, .inl g)) (w1 : Cond.methodLink own index arraycopyName ∈ Ts) (w2 : Cond.native arraycopyName ∈ Ts) (w3 : Cond.static arraycopyName ∈ Ts) (w4 : Cond.initialized "java/lang/System" ∈ Ts) (j : Nat) (hj : n = nI j) (hj2 : j < 2 ^ 31) (h0 : j ≤ n0) (h1 : j ≤ n1) (hfr : 1 ≤ R0.frames) (hlo : (st.map fun v => v.category).sum + (nativeFrameWords "java/lang/System" "arraycopy" 5 + 11) ≤ R0.locals) (hdg : decode cc pc = .ok (.invokestatic index, 3))
    (kk : V Λ κ (va_up C r1 (.inl (Λ.2.2.2.1 1, n1, .inl (va_cpy f g 0 0 j)))) (pc + 3) lv st) : V Λ κ C pc lv (.int n :: .int 0 :: rf Λ r1 :: .int 0 :: rf Λ r0 :: st) := by
  subst hj
  obtain ⟨p, e, R, s, m, args, below, meth, c, nL, kc, ks', Q⟩ := κ
  intro H locs ls hP hD hS hl
  have z0 : (0 : Int32).toNatClampNeg = 0 := rfl
  have hb := hC.1.2.1
  refine va_copyi hC.1.1 hC.1.2.1 (by rw [hC.1.2.2.1, hl.1]) hC.1.2.2.2.1 (hC.1.2.2.2.2 _ w1) (hC.1.2.2.2.2 _ w2) (hC.1.2.2.2.2 _ w3) (hC.1.2.2.2.2 _ w4) hC.2.2.2.1 hP hD hS r0 r1 1 1 (by rw [wl_get hr0, he0]) (by rw [wl_get hr1, he1]) rfl rfl rfl (by decide) (by decide) (nI_pos hj2) (by rw [z0, nI_clamp hj2]; omega) (by rw [z0, nI_clamp hj2]; omega) (fun _ _ => rfl) (by rw [hC.2.1]; exact hfr) (by rw [hC.2.1]; exact hlo) hdg (fun H1 locs1 hP1 hD1 hS1 => ?_)
  rw [wl_set hr1, z0, nI_clamp hj2] at hP1 hD1
  exact kk H1 locs1 ls hP1 hD1 hS1 hl
theorem v_copyl (hC : Ok Λ R0 cc Ts own nL0 κ) {index n0 n1 : Nat} {f g : Nat → Int64} {n : Int32} (r0 r1 : Nat) (hr0 : r0 < nR) (hr1 : r1 < nR) (he0 : C r0 = .inl (Λ.2.2.2.1 0, n0, .inr (.inl f))) (he1 : C r1 = .inl (Λ.2.2.2.1 0, n1, .inr (.inl g))) (w1 : Cond.methodLink own index arraycopyName ∈ Ts) (w2 : Cond.native arraycopyName ∈ Ts) (w3 : Cond.static arraycopyName ∈ Ts) (w4 : Cond.initialized "java/lang/System" ∈ Ts) (j : Nat) (hj : n = nI j) (hj2 : j < 2 ^ 31) (h0 : j ≤ n0) (h1 : j ≤ n1) (hfr : 1 ≤ R0.frames) (hlo : (st.map fun v => v.category).sum + (nativeFrameWords "java/lang/System" "arraycopy" 5 + 11) ≤ R0.locals) (hdg : decode cc pc = .ok (.invokestatic index, 3))
    (kk : V Λ κ (va_up C r1 (.inl (Λ.2.2.2.1 0, n1, .inr (.inl (va_cpy f g 0 0 j))))) (pc + 3) lv st) : V Λ κ C pc lv (.int n :: .int 0 :: rf Λ r1 :: .int 0 :: rf Λ r0 :: st) := by
  subst hj
  obtain ⟨p, e, R, s, m, args, below, meth, c, nL, kc, ks', Q⟩ := κ
  intro H locs ls hP hD hS hl
  have z0 : (0 : Int32).toNatClampNeg = 0 := rfl
  refine va_copyl hC.1.1 hC.1.2.1 (by rw [hC.1.2.2.1, hl.1]) hC.1.2.2.2.1 (hC.1.2.2.2.2 _ w1) (hC.1.2.2.2.2 _ w2) (hC.1.2.2.2.2 _ w3) (hC.1.2.2.2.2 _ w4) hC.2.2.2.1 hP hD hS r0 r1 0 0 (by rw [wl_get hr0, he0]) (by rw [wl_get hr1, he1]) rfl rfl rfl (by decide) (by decide) (nI_pos hj2) (by rw [z0, nI_clamp hj2]; omega) (by rw [z0, nI_clamp hj2]; omega) (fun _ _ => rfl) (by rw [hC.2.1]; exact hfr) (by rw [hC.2.1]; exact hlo) hdg (fun H1 locs1 hP1 hD1 hS1 => ?_)
  rw [wl_set hr1, z0, nI_clamp hj2] at hP1 hD1
  exact kk H1 locs1 ls hP1 hD1 hS1 hl
-- a cell may be said otherwise where nothing is read
theorem v_congr {C' : Mem} (h : ∀ r, r < nR → C r = C' r ∨ ∃ cA n f f', C r = .inl (cA, n, .inl f) ∧ C' r = .inl (cA, n, .inl f') ∧ ∀ j, j < n → f j = f' j) (k : V Λ κ C' pc lv st) : V Λ κ C pc lv st := by
  obtain ⟨p, e, R, s, m, args, below, meth, c, nL, kc, ks', Q⟩ := κ
  intro H locs ls hP hD hS hl
  have key : ∀ (i : Nat) (q : Nat × va_E), (wl Λ.2.1 C')[i]? = some q → ∃ q0, (wl Λ.2.1 C)[i]? = some q0 ∧ q0.1 = q.1 ∧ (va_at Λ.2.2.1 vwCl q0 H → va_at Λ.2.2.1 vwCl q H) := by
    intro i q hq
    have hi : i < nR := by
      have := (List.getElem?_eq_some_iff.mp hq).1
      simpa [wl] using this
    rw [wl_get hi] at hq
    cases hq
    refine ⟨_, wl_get hi, rfl, fun ha => ?_⟩
    rcases h i hi with h1 | ⟨cA, n, f, f', h1, h2, h3⟩
    · rw [← h1]; exact ha
    · rw [h1] at ha
      rw [h2]
      have e1 : vp_cell cA (n, .inl f) = vp_cell cA (n, .inl f') := by
        rw [vp_cell_i, vp_cell_i]
        unfold arrV
        congr 1
        apply Array.ext
        · simp
        · intro i hi1 hi2
          simp at hi1
          simp [h3 i hi1]
      show H[Λ.2.1 i]? = some (vp_cell cA (n, .inl f'))
      rw [← e1]
      exact ha
  refine k H locs ls (fun i q hq => ?_) ⟨fun i j x y hx hy hxy => ?_, fun i q hq => ?_⟩ hS hl
  · obtain ⟨q0, a1, a2, a3⟩ := key i q hq
    exact a3 (hP i q0 a1)
  · obtain ⟨x0, a1, a2, -⟩ := key i x hx
    obtain ⟨y0, b1, b2, -⟩ := key j y hy
    exact hD.1 i j x0 y0 a1 b1 (by rw [a2, b2]; exact hxy)
  · obtain ⟨q0, a1, a2, -⟩ := key i q hq
    rw [← a2]
    exact hD.2 i q0 a1
end ROWS
-- calls
theorem v_back {Λ : Lk} {p : Program} {e : Env} {R : Room} {s : State} {m : MethodId} {args : Array Value} {below : List Frame} {meth : Method} {c : Code} {nL kc ks : Nat} {Q : State → Prop} {C2 : Mem} {pc : Nat} {lv : Lvs} {st0 rest : List Value} {rv : Option Value} {a : Array Value} {H : Heap} {locs : List Loc} {ls : Array Slot} (hS : va_S Λ.2.2.2.2 s.heap H locs) (hl : lv_has ls nL lv)
    (hr : va_Run p Λ.1 e R s m args below meth c H locs kc ks 0 0 (F0 m pc ls st0) rest (QQ Λ rv C2 a) Λ.2.2.2.2)
    (k : V Λ (p, e, R, s, m, args, below, meth, c, nL, kc, ks, Q) C2 (pc + 3) lv (rv.toList ++ rest)) : W p Λ.1 e R s m args below meth c H locs kc ks Q (F0 m pc ls st0) := by
  intro T hT X
  obtain ⟨v, st₀, t, T', L, h0, X', hL, e1, e2, ⟨⟨hv, hP, hD⟩, hz, hk⟩, stp⟩ := hr T hT X
  cases hv
  rw [h0] at hz hk
  rw [← e1] at hP hz hk
  obtain ⟨t2, a1, b1⟩ := k T'.heap (locs ++ L) ls hP hD ⟨Nat.le_trans hS.1 hz, fun q h1 h2 => by rw [hk q (Nat.lt_of_lt_of_le h1 hS.1) h2]; exact hS.2.1 q h1 h2, fun q hq => by
      rcases List.mem_append.mp hq with h | h
      · exact hS.2.2 q h
      · exact hL q h⟩ hl T' rfl X'
  exact ⟨t2, stp t2 a1, b1⟩
section CALLS
variable {Λ : Lk} {κ : Kx} {R0 : Room} {cc : ByteArray} {Ts : List Cond} {own : String} {nL0 : Nat} {C C2 : Mem} {pc : Nat} {lv : Lvs} {st rest : List Value}
theorem v_callV (hC : Ok Λ R0 cc Ts own nL0 κ) {y : MethodName} {ws ws' : List Cond} {rm : Room} {As : List Value} {rv : Option Value} {bytes : ByteArray} {maxL index : Nat} {ret : Option FieldType} {cn : vw_C} {ci : Nat} {fs : List Value} (n r : Nat) (hM : Con Λ y ws rm (rf Λ r :: As) C rv C2) (hr : r < nR) (he : C r = .inr (ci, fs)) (hc : vwCl[ci]? = some cn) (hG : GoodIn Ts (wsV own index cn.1 y ws)) (hw : ws = Cond.code y bytes maxL ret :: ws') (hrc : rm.cells = 0) (hrs : rm.slots = 0)
    (hd : y.cls = cn.1 ∧ y.cls ≠ "java/lang/invoke/MethodHandle" ∧ y.cls ≠ "java/lang/invoke/VarHandle" ∧ (parseMethodDescriptor y.desc).map (fun d => d.parameters.length) = some n) (hR : rm.frames + 1 ≤ R0.frames ∧ 8 + (maxL + 11) + rm.locals ≤ R0.locals) (hn : As.length = n) (hs : st = As.reverse ++ rf Λ r :: rest) (hro : (rest.map fun v => v.category).sum ≤ 8) (hdg : decode cc pc = .ok (.invokevirtual index, 3))
    (k : V Λ κ C2 (pc + 3) lv (rv.toList ++ rest)) : V Λ κ C pc lv st := by
  subst hs
  obtain ⟨p, e, R, s, m, args, below, meth, c, nL, kc, ks', Q⟩ := κ
  obtain ⟨S, rfl, rfl, hK, hN, hkc, hks⟩ := hC
  intro H locs ls hP hD hS hl
  refine v_back hS hl (va_runV (As := As) (rest := rest) S hM (cwV n S.2.2.2.2 hG hw hrc hrs hd hR) ⟨Hld.blind, va_recv hK hP hc (q0 := r) (by rw [wl_get hr, he]), fun U hU hW => ⟨rfl, by rw [hU]; exact hP, hD, va_K.moved hW.alike hK, nst_warm hW hN⟩⟩ rfl hn hl.1 rfl (lv_room hro) hdg ⟨hkc, hks⟩) k
theorem v_callS (hC : Ok Λ R0 cc Ts own nL0 κ) {y : MethodName} {ws ws' : List Cond} {rm : Room} {As : List Value} {rv : Option Value} {bytes : ByteArray} {maxL index : Nat} {ret : Option FieldType} (n : Nat) (hM : Con Λ y ws rm As C rv C2) (hG : GoodIn Ts (va_wsS own index y ws)) (hw : ws = Cond.code y bytes maxL ret :: ws') (hrc : rm.cells = 0) (hrs : rm.slots = 0)
    (hd : y.cls ≠ "java/lang/invoke/MethodHandle" ∧ y.cls ≠ "java/lang/invoke/VarHandle" ∧ (parseMethodDescriptor y.desc).map (fun d => d.parameters.length) = some n) (hR : rm.frames + 1 ≤ R0.frames ∧ 8 + (maxL + 11) + rm.locals ≤ R0.locals) (hn : As.length = n) (hs : st = As.reverse ++ rest) (hro : (rest.map fun v => v.category).sum ≤ 8) (hdg : decode cc pc = .ok (.invokestatic index, 3))
    (k : V Λ κ C2 (pc + 3) lv (rv.toList ++ rest)) : V Λ κ C pc lv st := by
  subst hs
  obtain ⟨p, e, R, s, m, args, below, meth, c, nL, kc, ks', Q⟩ := κ
  obtain ⟨S, rfl, rfl, hK, hN, hkc, hks⟩ := hC
  intro H locs ls hP hD hS hl
  refine v_back hS hl (va_runS (As := As) (rest := rest) S hM (va_cwS n S.2.2.2.2 hG hw hrc hrs hd hR) ⟨Hld.blind, fun U hU hW => ⟨rfl, by rw [hU]; exact hP, hD, va_K.moved hW.alike hK, nst_warm hW hN⟩⟩ rfl hn hl.1 rfl (lv_room hro) hdg ⟨hkc, hks⟩) k
theorem v_callN (hC : Ok Λ R0 cc Ts own nL0 κ) {y : MethodName} {ws ws' : List Cond} {rm : Room} {As : List Value} {rv : Option Value} {bytes : ByteArray} {maxL index : Nat} {ret : Option FieldType} {host : String} (n : Nat) (hM : Con Λ y ws rm As C rv C2) (hG : GoodIn Ts ws) (hw : ws = Cond.code y bytes maxL ret :: ws') (hrc : rm.cells = 0) (hrs : rm.slots = 0) (hnw : Cond.methodLinkNest own index y host ∈ nst) (hini : Cond.initialized y.cls ∈ Ts) (hst : Cond.static y ∈ Ts)
    (hd : y.cls ≠ "java/lang/invoke/MethodHandle" ∧ y.cls ≠ "java/lang/invoke/VarHandle" ∧ (parseMethodDescriptor y.desc).map (fun d => d.parameters.length) = some n) (hR : rm.frames + 1 ≤ R0.frames ∧ 8 + (maxL + 11) + rm.locals ≤ R0.locals) (hn : As.length = n) (hs : st = As.reverse ++ rest) (hro : (rest.map fun v => v.category).sum ≤ 8) (hdg : decode cc pc = .ok (.invokestatic index, 3))
    (k : V Λ κ C2 (pc + 3) lv (rv.toList ++ rest)) : V Λ κ C pc lv st := by
  subst hs
  obtain ⟨p, e, R, s, m, args, below, meth, c, nL, kc, ks', Q⟩ := κ
  obtain ⟨S, rfl, rfl, hK, hN, hkc, hks⟩ := hC
  intro H locs ls hP hD hS hl
  refine v_back hS hl (va_runSN (As := As) (rest := rest) S hM ⟨va_cnB n S.2.2.2.2 hG hw hrc hrs (hN _ hnw) (S.2.2.2.2 _ hini) hd hR, S.2.2.2.2 _ hst, trivial⟩ ⟨Hld.blind, fun U hU hW => ⟨rfl, by rw [hU]; exact hP, hD, va_K.moved hW.alike hK, nst_warm hW hN⟩⟩ rfl hn hl.1 rfl (lv_room hro) hdg ⟨hkc, hks⟩) k
-- ends
theorem v_iret (hC : Ok Λ R0 cc Ts own nL0 κ) {x : Int32} {rv : Option Value} (hR : Rt Λ (some .int) rv C2 κ) (hv : rv = some (.int x)) (hm : C2 = C) (hdg : decode cc pc = .ok (.ireturn, 1)) : V Λ κ C pc lv [.int x] := by
  subst hv hm
  obtain ⟨p, e, R, s, m, args, below, meth, c, nL, kc, ks', Q⟩ := κ
  obtain ⟨rfl, hr, hlk⟩ := hR
  intro H locs ls hP hD hS hl
  exact W.iret (v := x) hC.1.1 hC.1.2.1 hr (fun t ht hW => ⟨⟨rfl, by rw [ht]; exact hP, hD⟩, hS.F ht⟩) hS.2.2 hdg hlk
theorem v_zret (hC : Ok Λ R0 cc Ts own nL0 κ) {x : Int32} {rv : Option Value} (hR : Rt Λ (some .boolean) rv C2 κ) (hv : rv = some (.int x)) (hm : C2 = C) (hz : narrow .boolean (.int x) = .int x) (hdg : decode cc pc = .ok (.ireturn, 1)) : V Λ κ C pc lv [.int x] := by
  subst hv hm
  obtain ⟨p, e, R, s, m, args, below, meth, c, nL, kc, ks', Q⟩ := κ
  obtain ⟨rfl, hr, hlk⟩ := hR
  intro H locs ls hP hD hS hl
  exact W.zret (v := x) hC.1.1 hC.1.2.1 hr hz (fun t ht hW => ⟨⟨rfl, by rw [ht]; exact hP, hD⟩, hS.F ht⟩) hS.2.2 hdg hlk
theorem v_lret (hC : Ok Λ R0 cc Ts own nL0 κ) {x : Int64} {rv : Option Value} (hR : Rt Λ (some .long) rv C2 κ) (hv : rv = some (.long x)) (hm : C2 = C) (hdg : decode cc pc = .ok (.lreturn, 1)) : V Λ κ C pc lv [.long x] := by
  subst hv hm
  obtain ⟨p, e, R, s, m, args, below, meth, c, nL, kc, ks', Q⟩ := κ
  obtain ⟨rfl, hr, hlk⟩ := hR
  intro H locs ls hP hD hS hl
  exact W.lret (v := x) hC.1.1 hC.1.2.1 hr (fun t ht hW => ⟨⟨rfl, by rw [ht]; exact hP, hD⟩, hS.F ht⟩) hS.2.2 hdg hlk
theorem v_vret (hC : Ok Λ R0 cc Ts own nL0 κ) {rv : Option Value} (hR : Rt Λ none rv C2 κ) (hv : rv = none) (hm : C2 = C) (hdg : decode cc pc = .ok (.return_, 1)) : V Λ κ C pc lv [] := by
  subst hv hm
  obtain ⟨p, e, R, s, m, args, below, meth, c, nL, kc, ks', Q⟩ := κ
  obtain ⟨rfl, hr, hlk⟩ := hR
  intro H locs ls hP hD hS hl
  exact W.vret hC.1.1 hC.1.2.1 hr (fun t ht hW => ⟨⟨rfl, by rw [ht]; exact hP, hD⟩, hS.F ht⟩) hS.2.2 hdg hlk
end CALLS

section CALLS2
variable {Λ : Lk} {κ : Kx} {R0 : Room} {cc : ByteArray} {Ts : List Cond} {own : String} {nL0 : Nat} {C C2 : Mem} {pc : Nat} {lv : Lvs} {st rest : List Value}
theorem v_callVr (hC : Ok Λ R0 cc Ts own nL0 κ) {y : MethodName} {ws ws' : List Cond} {rm : Room} {As : List Value} {v : Value} {bytes : ByteArray} {maxL index : Nat} {ret : Option FieldType} {cn : vw_C} {ci : Nat} {fs : List Value} (n r : Nat) (hM : Con Λ y ws rm (rf Λ r :: As) C (some v) C2) (hr : r < nR) (he : C r = .inr (ci, fs)) (hc : vwCl[ci]? = some cn) (hG : GoodIn Ts (wsV own index cn.1 y ws)) (hw : ws = Cond.code y bytes maxL ret :: ws') (hrc : rm.cells = 0) (hrs : rm.slots = 0)
    (hd : y.cls = cn.1 ∧ y.cls ≠ "java/lang/invoke/MethodHandle" ∧ y.cls ≠ "java/lang/invoke/VarHandle" ∧ (parseMethodDescriptor y.desc).map (fun d => d.parameters.length) = some n) (hR : rm.frames + 1 ≤ R0.frames ∧ 8 + (maxL + 11) + rm.locals ≤ R0.locals) (hn : As.length = n) (hs : st = As.reverse ++ rf Λ r :: rest) (hro : (rest.map fun v => v.category).sum ≤ 8) (hdg : decode cc pc = .ok (.invokevirtual index, 3))
    (k : V Λ κ C2 (pc + 3) lv (v :: rest)) : V Λ κ C pc lv st := v_callV hC n r hM hr he hc hG hw hrc hrs hd hR hn hs hro hdg k
theorem v_callVv (hC : Ok Λ R0 cc Ts own nL0 κ) {y : MethodName} {ws ws' : List Cond} {rm : Room} {As : List Value} {bytes : ByteArray} {maxL index : Nat} {ret : Option FieldType} {cn : vw_C} {ci : Nat} {fs : List Value} (n r : Nat) (hM : Con Λ y ws rm (rf Λ r :: As) C none C2) (hr : r < nR) (he : C r = .inr (ci, fs)) (hc : vwCl[ci]? = some cn) (hG : GoodIn Ts (wsV own index cn.1 y ws)) (hw : ws = Cond.code y bytes maxL ret :: ws') (hrc : rm.cells = 0) (hrs : rm.slots = 0)
    (hd : y.cls = cn.1 ∧ y.cls ≠ "java/lang/invoke/MethodHandle" ∧ y.cls ≠ "java/lang/invoke/VarHandle" ∧ (parseMethodDescriptor y.desc).map (fun d => d.parameters.length) = some n) (hR : rm.frames + 1 ≤ R0.frames ∧ 8 + (maxL + 11) + rm.locals ≤ R0.locals) (hn : As.length = n) (hs : st = As.reverse ++ rf Λ r :: rest) (hro : (rest.map fun v => v.category).sum ≤ 8) (hdg : decode cc pc = .ok (.invokevirtual index, 3))
    (k : V Λ κ C2 (pc + 3) lv rest) : V Λ κ C pc lv st := v_callV hC n r hM hr he hc hG hw hrc hrs hd hR hn hs hro hdg k
theorem v_callSr (hC : Ok Λ R0 cc Ts own nL0 κ) {y : MethodName} {ws ws' : List Cond} {rm : Room} {As : List Value} {v : Value} {bytes : ByteArray} {maxL index : Nat} {ret : Option FieldType} (n : Nat) (hM : Con Λ y ws rm As C (some v) C2) (hG : GoodIn Ts (va_wsS own index y ws)) (hw : ws = Cond.code y bytes maxL ret :: ws') (hrc : rm.cells = 0) (hrs : rm.slots = 0)
    (hd : y.cls ≠ "java/lang/invoke/MethodHandle" ∧ y.cls ≠ "java/lang/invoke/VarHandle" ∧ (parseMethodDescriptor y.desc).map (fun d => d.parameters.length) = some n) (hR : rm.frames + 1 ≤ R0.frames ∧ 8 + (maxL + 11) + rm.locals ≤ R0.locals) (hn : As.length = n) (hs : st = As.reverse ++ rest) (hro : (rest.map fun v => v.category).sum ≤ 8) (hdg : decode cc pc = .ok (.invokestatic index, 3))
    (k : V Λ κ C2 (pc + 3) lv (v :: rest)) : V Λ κ C pc lv st := v_callS hC n hM hG hw hrc hrs hd hR hn hs hro hdg k
theorem v_callSv (hC : Ok Λ R0 cc Ts own nL0 κ) {y : MethodName} {ws ws' : List Cond} {rm : Room} {As : List Value} {bytes : ByteArray} {maxL index : Nat} {ret : Option FieldType} (n : Nat) (hM : Con Λ y ws rm As C none C2) (hG : GoodIn Ts (va_wsS own index y ws)) (hw : ws = Cond.code y bytes maxL ret :: ws') (hrc : rm.cells = 0) (hrs : rm.slots = 0)
    (hd : y.cls ≠ "java/lang/invoke/MethodHandle" ∧ y.cls ≠ "java/lang/invoke/VarHandle" ∧ (parseMethodDescriptor y.desc).map (fun d => d.parameters.length) = some n) (hR : rm.frames + 1 ≤ R0.frames ∧ 8 + (maxL + 11) + rm.locals ≤ R0.locals) (hn : As.length = n) (hs : st = As.reverse ++ rest) (hro : (rest.map fun v => v.category).sum ≤ 8) (hdg : decode cc pc = .ok (.invokestatic index, 3))
    (k : V Λ κ C2 (pc + 3) lv rest) : V Λ κ C pc lv st := v_callS hC n hM hG hw hrc hrs hd hR hn hs hro hdg k
theorem v_callNr (hC : Ok Λ R0 cc Ts own nL0 κ) {y : MethodName} {ws ws' : List Cond} {rm : Room} {As : List Value} {v : Value} {bytes : ByteArray} {maxL index : Nat} {ret : Option FieldType} {host : String} (n : Nat) (hM : Con Λ y ws rm As C (some v) C2) (hG : GoodIn Ts ws) (hw : ws = Cond.code y bytes maxL ret :: ws') (hrc : rm.cells = 0) (hrs : rm.slots = 0) (hnw : Cond.methodLinkNest own index y host ∈ nst) (hini : Cond.initialized y.cls ∈ Ts) (hst : Cond.static y ∈ Ts)
    (hd : y.cls ≠ "java/lang/invoke/MethodHandle" ∧ y.cls ≠ "java/lang/invoke/VarHandle" ∧ (parseMethodDescriptor y.desc).map (fun d => d.parameters.length) = some n) (hR : rm.frames + 1 ≤ R0.frames ∧ 8 + (maxL + 11) + rm.locals ≤ R0.locals) (hn : As.length = n) (hs : st = As.reverse ++ rest) (hro : (rest.map fun v => v.category).sum ≤ 8) (hdg : decode cc pc = .ok (.invokestatic index, 3))
    (k : V Λ κ C2 (pc + 3) lv (v :: rest)) : V Λ κ C pc lv st := v_callN hC n hM hG hw hrc hrs hnw hini hst hd hR hn hs hro hdg k
theorem v_callNv (hC : Ok Λ R0 cc Ts own nL0 κ) {y : MethodName} {ws ws' : List Cond} {rm : Room} {As : List Value} {bytes : ByteArray} {maxL index : Nat} {ret : Option FieldType} {host : String} (n : Nat) (hM : Con Λ y ws rm As C none C2) (hG : GoodIn Ts ws) (hw : ws = Cond.code y bytes maxL ret :: ws') (hrc : rm.cells = 0) (hrs : rm.slots = 0) (hnw : Cond.methodLinkNest own index y host ∈ nst) (hini : Cond.initialized y.cls ∈ Ts) (hst : Cond.static y ∈ Ts)
    (hd : y.cls ≠ "java/lang/invoke/MethodHandle" ∧ y.cls ≠ "java/lang/invoke/VarHandle" ∧ (parseMethodDescriptor y.desc).map (fun d => d.parameters.length) = some n) (hR : rm.frames + 1 ≤ R0.frames ∧ 8 + (maxL + 11) + rm.locals ≤ R0.locals) (hn : As.length = n) (hs : st = As.reverse ++ rest) (hro : (rest.map fun v => v.category).sum ≤ 8) (hdg : decode cc pc = .ok (.invokestatic index, 3))
    (k : V Λ κ C2 (pc + 3) lv rest) : V Λ κ C pc lv st := v_callN hC n hM hG hw hrc hrs hnw hini hst hd hR hn hs hro hdg k
end CALLS2

def bI (b : Bool) : Int32 := if b then 1 else 0
theorem nar_b (b : Bool) : narrow .boolean (.int (bI b)) = .int (bI b) := by cases b <;> rfl
theorem bI_eq0 {b : Bool} : bI b = 0 ↔ b = false := by cases b <;> decide
theorem bI_inj {a b : Bool} : bI a = bI b ↔ a = b := by cases a <;> cases b <;> decide
theorem i32_ne {x k : Int32} {n : Int} (h : ¬ x = k) (hk : k.toInt = n) : x.toInt ≠ n := fun e => h (Int32.toInt_inj.mp (e.trans hk.symm))
section BR2
variable {Λ : Lk} {κ : Kx} {R0 : Room} {cc : ByteArray} {Ts : List Cond} {own : String} {nL0 : Nat} {C : Mem} {pc : Nat} {lv : Lvs} {st : List Value}
theorem v_beq (hC : Ok Λ R0 cc Ts own nL0 κ) {b : Bool} {off : Int} {tgt : Nat} (hdg : decode cc pc = .ok (.ifCond .eq off, 3)) (ht : (pc : Int) + off = (tgt : Int)) (kt : b = false → V Λ κ C tgt lv st) (kf : b = true → V Λ κ C (pc + 3) lv st) : V Λ κ C pc lv (.int (bI b) :: st) :=
  v_if_eq hC hdg ht (fun h => kt (bI_eq0.mp h)) (fun h => kf (by cases b with | true => rfl | false => exact absurd rfl h))
theorem v_bne (hC : Ok Λ R0 cc Ts own nL0 κ) {b : Bool} {off : Int} {tgt : Nat} (hdg : decode cc pc = .ok (.ifCond .ne off, 3)) (ht : (pc : Int) + off = (tgt : Int)) (kt : b = true → V Λ κ C tgt lv st) (kf : b = false → V Λ κ C (pc + 3) lv st) : V Λ κ C pc lv (.int (bI b) :: st) :=
  v_if_ne hC hdg ht (fun h => kt (by cases b with | true => rfl | false => exact absurd rfl h)) (fun h => kf (bI_eq0.mp h))
theorem v_beqT (hC : Ok Λ R0 cc Ts own nL0 κ) {b : Bool} {off : Int} {tgt : Nat} (hdg : decode cc pc = .ok (.ifCond .eq off, 3)) (ht : (pc : Int) + off = (tgt : Int)) (h : b = false) (kt : V Λ κ C tgt lv st) : V Λ κ C pc lv (.int (bI b) :: st) := v_beq hC hdg ht (fun _ => kt) (fun g => absurd (h.symm.trans g) (by decide))
theorem v_beqF (hC : Ok Λ R0 cc Ts own nL0 κ) {b : Bool} {off : Int} {tgt : Nat} (hdg : decode cc pc = .ok (.ifCond .eq off, 3)) (ht : (pc : Int) + off = (tgt : Int)) (h : b = true) (kf : V Λ κ C (pc + 3) lv st) : V Λ κ C pc lv (.int (bI b) :: st) := v_beq hC hdg ht (fun g => absurd (h.symm.trans g) (by decide)) (fun _ => kf)
theorem v_bneT (hC : Ok Λ R0 cc Ts own nL0 κ) {b : Bool} {off : Int} {tgt : Nat} (hdg : decode cc pc = .ok (.ifCond .ne off, 3)) (ht : (pc : Int) + off = (tgt : Int)) (h : b = true) (kt : V Λ κ C tgt lv st) : V Λ κ C pc lv (.int (bI b) :: st) := v_bne hC hdg ht (fun _ => kt) (fun g => absurd (h.symm.trans g) (by decide))
theorem v_bneF (hC : Ok Λ R0 cc Ts own nL0 κ) {b : Bool} {off : Int} {tgt : Nat} (hdg : decode cc pc = .ok (.ifCond .ne off, 3)) (ht : (pc : Int) + off = (tgt : Int)) (h : b = false) (kf : V Λ κ C (pc + 3) lv st) : V Λ κ C pc lv (.int (bI b) :: st) := v_bne hC hdg ht (fun g => absurd (h.symm.trans g) (by decide)) (fun _ => kf)
theorem v_ceq (hC : Ok Λ R0 cc Ts own nL0 κ) {a b : Bool} {x y : Int32} {off : Int} {tgt : Nat} (hdg : decode cc pc = .ok (.if_icmp .eq off, 3)) (ht : (pc : Int) + off = (tgt : Int)) (hx : x = bI a) (hy : y = bI b) (kt : a = b → V Λ κ C tgt lv st) (kf : ¬ a = b → V Λ κ C (pc + 3) lv st) : V Λ κ C pc lv (.int y :: .int x :: st) := by
  subst hx hy
  exact v_icmp_eq hC hdg ht (fun h => kt (bI_inj.mp h)) (fun h => kf (fun g => h (bI_inj.mpr g)))
theorem v_cne (hC : Ok Λ R0 cc Ts own nL0 κ) {a b : Bool} {x y : Int32} {off : Int} {tgt : Nat} (hdg : decode cc pc = .ok (.if_icmp .ne off, 3)) (ht : (pc : Int) + off = (tgt : Int)) (hx : x = bI a) (hy : y = bI b) (kt : ¬ a = b → V Λ κ C tgt lv st) (kf : a = b → V Λ κ C (pc + 3) lv st) : V Λ κ C pc lv (.int y :: .int x :: st) := by
  subst hx hy
  exact v_icmp_ne hC hdg ht (fun h => kt (fun g => h (bI_inj.mpr g))) (fun h => kf (bI_inj.mp h))
theorem v_neq (hC : Ok Λ R0 cc Ts own nL0 κ) {a b : Nat} {x y : Int32} {off : Int} {tgt : Nat} (hdg : decode cc pc = .ok (.if_icmp .eq off, 3)) (ht : (pc : Int) + off = (tgt : Int)) (hx : x = nI a) (hy : y = nI b) (ha : a < 2 ^ 31) (hb : b < 2 ^ 31) (kt : a = b → V Λ κ C tgt lv st) (kf : a ≠ b → V Λ κ C (pc + 3) lv st) : V Λ κ C pc lv (.int y :: .int x :: st) := by
  subst hx hy
  exact v_icmp_eq hC hdg ht (fun h => kt ((nI_eq ha hb).mp h)) (fun h => kf (fun g => h ((nI_eq ha hb).mpr g)))
theorem v_nne (hC : Ok Λ R0 cc Ts own nL0 κ) {a b : Nat} {x y : Int32} {off : Int} {tgt : Nat} (hdg : decode cc pc = .ok (.if_icmp .ne off, 3)) (ht : (pc : Int) + off = (tgt : Int)) (hx : x = nI a) (hy : y = nI b) (ha : a < 2 ^ 31) (hb : b < 2 ^ 31) (kt : a ≠ b → V Λ κ C tgt lv st) (kf : a = b → V Λ κ C (pc + 3) lv st) : V Λ κ C pc lv (.int y :: .int x :: st) := by
  subst hx hy
  exact v_icmp_ne hC hdg ht (fun h => kt (fun g => h ((nI_eq ha hb).mpr g))) (fun h => kf ((nI_eq ha hb).mp h))
theorem v_nlt (hC : Ok Λ R0 cc Ts own nL0 κ) {a b : Nat} {x y : Int32} {off : Int} {tgt : Nat} (hdg : decode cc pc = .ok (.if_icmp .lt off, 3)) (ht : (pc : Int) + off = (tgt : Int)) (hx : x = nI a) (hy : y = nI b) (ha : a < 2 ^ 31) (hb : b < 2 ^ 31) (kt : a < b → V Λ κ C tgt lv st) (kf : b ≤ a → V Λ κ C (pc + 3) lv st) : V Λ κ C pc lv (.int y :: .int x :: st) := by
  subst hx hy
  exact v_icmp_lt hC hdg ht (fun h => kt ((nI_ltI ha hb).mp h)) (fun h => kf (Nat.le_of_not_lt (fun g => h ((nI_ltI ha hb).mpr g))))
theorem v_nge (hC : Ok Λ R0 cc Ts own nL0 κ) {a b : Nat} {x y : Int32} {off : Int} {tgt : Nat} (hdg : decode cc pc = .ok (.if_icmp .ge off, 3)) (ht : (pc : Int) + off = (tgt : Int)) (hx : x = nI a) (hy : y = nI b) (ha : a < 2 ^ 31) (hb : b < 2 ^ 31) (kt : b ≤ a → V Λ κ C tgt lv st) (kf : a < b → V Λ κ C (pc + 3) lv st) : V Λ κ C pc lv (.int y :: .int x :: st) := by
  subst hx hy
  exact v_icmp_ge hC hdg ht (fun h => kt ((nI_leI hb ha).mp h)) (fun h => kf (Nat.lt_of_not_le (fun g => h ((nI_leI hb ha).mpr g))))
theorem v_ngt (hC : Ok Λ R0 cc Ts own nL0 κ) {a b : Nat} {x y : Int32} {off : Int} {tgt : Nat} (hdg : decode cc pc = .ok (.if_icmp .gt off, 3)) (ht : (pc : Int) + off = (tgt : Int)) (hx : x = nI a) (hy : y = nI b) (ha : a < 2 ^ 31) (hb : b < 2 ^ 31) (kt : b < a → V Λ κ C tgt lv st) (kf : a ≤ b → V Λ κ C (pc + 3) lv st) : V Λ κ C pc lv (.int y :: .int x :: st) := by
  subst hx hy
  exact v_icmp_gt hC hdg ht (fun h => kt ((nI_ltI hb ha).mp h)) (fun h => kf (Nat.le_of_not_lt (fun g => h ((nI_ltI hb ha).mpr g))))
theorem v_nle (hC : Ok Λ R0 cc Ts own nL0 κ) {a b : Nat} {x y : Int32} {off : Int} {tgt : Nat} (hdg : decode cc pc = .ok (.if_icmp .le off, 3)) (ht : (pc : Int) + off = (tgt : Int)) (hx : x = nI a) (hy : y = nI b) (ha : a < 2 ^ 31) (hb : b < 2 ^ 31) (kt : a ≤ b → V Λ κ C tgt lv st) (kf : b < a → V Λ κ C (pc + 3) lv st) : V Λ κ C pc lv (.int y :: .int x :: st) := by
  subst hx hy
  exact v_icmp_le hC hdg ht (fun h => kt ((nI_leI ha hb).mp h)) (fun h => kf (Nat.lt_of_not_le (fun g => h ((nI_leI ha hb).mpr g))))
theorem v_zeq (hC : Ok Λ R0 cc Ts own nL0 κ) {a : Nat} {x : Int32} {off : Int} {tgt : Nat} (hdg : decode cc pc = .ok (.ifCond .eq off, 3)) (ht : (pc : Int) + off = (tgt : Int)) (hx : x = nI a) (ha : a < 2 ^ 31) (kt : a = 0 → V Λ κ C tgt lv st) (kf : a ≠ 0 → V Λ κ C (pc + 3) lv st) : V Λ κ C pc lv (.int x :: st) := by
  subst hx
  have hb : (0 : Nat) < 2 ^ 31 := by decide
  have e1 := nI_eq ha hb
  have e2 := nI_ltI ha hb
  have e3 := nI_leI ha hb
  have e4 := nI_ltI hb ha
  have e5 := nI_leI hb ha
  rw [nI_0] at e1 e2 e3 e4 e5
  exact v_if_eq hC hdg ht (fun h => kt (by simp only [e1, e2, e3, e4, e5] at h; first | exact h | omega | trivial)) (fun h => kf (by simp only [e1, e2, e3, e4, e5] at h; first | exact h | omega | trivial))
theorem v_zne (hC : Ok Λ R0 cc Ts own nL0 κ) {a : Nat} {x : Int32} {off : Int} {tgt : Nat} (hdg : decode cc pc = .ok (.ifCond .ne off, 3)) (ht : (pc : Int) + off = (tgt : Int)) (hx : x = nI a) (ha : a < 2 ^ 31) (kt : a ≠ 0 → V Λ κ C tgt lv st) (kf : a = 0 → V Λ κ C (pc + 3) lv st) : V Λ κ C pc lv (.int x :: st) := by
  subst hx
  have hb : (0 : Nat) < 2 ^ 31 := by decide
  have e1 := nI_eq ha hb
  have e2 := nI_ltI ha hb
  have e3 := nI_leI ha hb
  have e4 := nI_ltI hb ha
  have e5 := nI_leI hb ha
  rw [nI_0] at e1 e2 e3 e4 e5
  exact v_if_ne hC hdg ht (fun h => kt (by simp only [e1, e2, e3, e4, e5] at h; first | exact h | omega | trivial)) (fun h => kf (by simp only [e1, e2, e3, e4, e5] at h; first | exact h | omega | trivial))
theorem v_zlt (hC : Ok Λ R0 cc Ts own nL0 κ) {a : Nat} {x : Int32} {off : Int} {tgt : Nat} (hdg : decode cc pc = .ok (.ifCond .lt off, 3)) (ht : (pc : Int) + off = (tgt : Int)) (hx : x = nI a) (ha : a < 2 ^ 31) (kt : False → V Λ κ C tgt lv st) (kf : True → V Λ κ C (pc + 3) lv st) : V Λ κ C pc lv (.int x :: st) := by
  subst hx
  have hb : (0 : Nat) < 2 ^ 31 := by decide
  have e1 := nI_eq ha hb
  have e2 := nI_ltI ha hb
  have e3 := nI_leI ha hb
  have e4 := nI_ltI hb ha
  have e5 := nI_leI hb ha
  rw [nI_0] at e1 e2 e3 e4 e5
  exact v_if_lt hC hdg ht (fun h => kt (by simp only [e1, e2, e3, e4, e5] at h; first | exact h | omega | trivial)) (fun h => kf (by simp only [e1, e2, e3, e4, e5] at h; first | exact h | omega | trivial))
theorem v_zge (hC : Ok Λ R0 cc Ts own nL0 κ) {a : Nat} {x : Int32} {off : Int} {tgt : Nat} (hdg : decode cc pc = .ok (.ifCond .ge off, 3)) (ht : (pc : Int) + off = (tgt : Int)) (hx : x = nI a) (ha : a < 2 ^ 31) (kt : True → V Λ κ C tgt lv st) (kf : False → V Λ κ C (pc + 3) lv st) : V Λ κ C pc lv (.int x :: st) := by
  subst hx
  have hb : (0 : Nat) < 2 ^ 31 := by decide
  have e1 := nI_eq ha hb
  have e2 := nI_ltI ha hb
  have e3 := nI_leI ha hb
  have e4 := nI_ltI hb ha
  have e5 := nI_leI hb ha
  rw [nI_0] at e1 e2 e3 e4 e5
  exact v_if_ge hC hdg ht (fun h => kt (by simp only [e1, e2, e3, e4, e5] at h; first | exact h | omega | trivial)) (fun h => kf (by simp only [e1, e2, e3, e4, e5] at h; first | exact h | omega | trivial))
theorem v_zgt (hC : Ok Λ R0 cc Ts own nL0 κ) {a : Nat} {x : Int32} {off : Int} {tgt : Nat} (hdg : decode cc pc = .ok (.ifCond .gt off, 3)) (ht : (pc : Int) + off = (tgt : Int)) (hx : x = nI a) (ha : a < 2 ^ 31) (kt : 0 < a → V Λ κ C tgt lv st) (kf : a = 0 → V Λ κ C (pc + 3) lv st) : V Λ κ C pc lv (.int x :: st) := by
  subst hx
  have hb : (0 : Nat) < 2 ^ 31 := by decide
  have e1 := nI_eq ha hb
  have e2 := nI_ltI ha hb
  have e3 := nI_leI ha hb
  have e4 := nI_ltI hb ha
  have e5 := nI_leI hb ha
  rw [nI_0] at e1 e2 e3 e4 e5
  exact v_if_gt hC hdg ht (fun h => kt (by simp only [e1, e2, e3, e4, e5] at h; first | exact h | omega | trivial)) (fun h => kf (by simp only [e1, e2, e3, e4, e5] at h; first | exact h | omega | trivial))
theorem v_zle (hC : Ok Λ R0 cc Ts own nL0 κ) {a : Nat} {x : Int32} {off : Int} {tgt : Nat} (hdg : decode cc pc = .ok (.ifCond .le off, 3)) (ht : (pc : Int) + off = (tgt : Int)) (hx : x = nI a) (ha : a < 2 ^ 31) (kt : a = 0 → V Λ κ C tgt lv st) (kf : 0 < a → V Λ κ C (pc + 3) lv st) : V Λ κ C pc lv (.int x :: st) := by
  subst hx
  have hb : (0 : Nat) < 2 ^ 31 := by decide
  have e1 := nI_eq ha hb
  have e2 := nI_ltI ha hb
  have e3 := nI_leI ha hb
  have e4 := nI_ltI hb ha
  have e5 := nI_leI hb ha
  rw [nI_0] at e1 e2 e3 e4 e5
  exact v_if_le hC hdg ht (fun h => kt (by simp only [e1, e2, e3, e4, e5] at h; first | exact h | omega | trivial)) (fun h => kf (by simp only [e1, e2, e3, e4, e5] at h; first | exact h | omega | trivial))
theorem v_tabIn (hC : Ok Λ R0 cc Ts own nL0 κ) {dflt lo hi : Int} {offs : Array Int} {len : Nat} {x : Int32} {off : Int} {tgt : Nat} (hdg : decode cc pc = .ok (.tableswitch dflt lo hi offs, len)) (h1 : ¬ x.toInt < lo) (h2 : ¬ hi < x.toInt) (ho : offs[(x.toInt - lo).toNat]? = some off) (ht : (pc : Int) + off = (tgt : Int)) (k : V Λ κ C tgt lv st) : V Λ κ C pc lv (.int x :: st) := by
  obtain ⟨p, e, R, s, m, args, below, meth, c, nL, kc, ks', Q⟩ := κ
  exact fun H locs ls hP hD hS hl => lv_tableIn hC.1.1 hC.1.2.1 hdg h1 h2 ho ht (k H locs ls hP hD hS hl)
theorem v_tabOut (hC : Ok Λ R0 cc Ts own nL0 κ) {dflt lo hi : Int} {offs : Array Int} {len : Nat} {x : Int32} {tgt : Nat} (hdg : decode cc pc = .ok (.tableswitch dflt lo hi offs, len)) (h : x.toInt < lo ∨ hi < x.toInt) (ht : (pc : Int) + dflt = (tgt : Int)) (k : V Λ κ C tgt lv st) : V Λ κ C pc lv (.int x :: st) := by
  obtain ⟨p, e, R, s, m, args, below, meth, c, nL, kc, ks', Q⟩ := κ
  exact fun H locs ls hP hD hS hl => lv_tableOut hC.1.1 hC.1.2.1 hdg h ht (k H locs ls hP hD hS hl)
theorem v_look (hC : Ok Λ R0 cc Ts own nL0 κ) {dflt : Int} {ps : Array (Int × Int)} {len : Nat} {x : Int32} {off : Int} {tgt : Nat} (hdg : decode cc pc = .ok (.lookupswitch dflt ps, len)) (hp : (ps.toList.zip (ps.toList.drop 1)).all (fun (a, next) => a.1 < next.1) = true) (ho : Op.lookupswitch.offset ps.toList dflt x.toInt = off) (ht : (pc : Int) + off = (tgt : Int)) (k : V Λ κ C tgt lv st) : V Λ κ C pc lv (.int x :: st) := by
  obtain ⟨p, e, R, s, m, args, below, meth, c, nL, kc, ks', Q⟩ := κ
  exact fun H locs ls hP hD hS hl => lv_lookup hC.1.1 hC.1.2.1 hdg hp ho ht (k H locs ls hP hD hS hl)
end BR2
end
section
/-! The state. Roles: a fleet i (i < 37: 6 * h + j for the fleet j of the harbour h; 36 the trial) has 5 * i (object), + 1 words, + 2 kinds, + 3 sizes, + 4 runs;
a harbour h (0 now, 1 snapshot, 2 to 5 the states) 185 + 2 * h and its row 186 + 2 * h; 197 the BoatSets, 198 the History, 199 its row, 200 the RangeText, 201 characters, 202 firsts, 203 lasts;
204 the reference, 205 now, 206 past, 207 kept, 208 trial, 209 text, 210 given, 211 numbers -/
abbrev FR : Type := (Nat → Int64) × (Nat → Int32) × (Nat → Int32) × (Nat → Int32) × Int32 × Int32 × Int32
abbrev fw (f : FR) : Nat → Int64 := f.1
abbrev fk (f : FR) : Nat → Int32 := f.2.1
abbrev fs (f : FR) : Nat → Int32 := f.2.2.1
abbrev fr (f : FR) : Nat → Int32 := f.2.2.2.1
abbrev fp (f : FR) : Int32 := f.2.2.2.2.1
abbrev fd (f : FR) : Int32 := f.2.2.2.2.2.1
abbrev fa (f : FR) : Int32 := f.2.2.2.2.2.2
abbrev fwS (f : FR) (v : Nat → Int64) : FR := (v, fk f, fs f, fr f, fp f, fd f, fa f)
abbrev fkS (f : FR) (v : Nat → Int32) : FR := (fw f, v, fs f, fr f, fp f, fd f, fa f)
abbrev fsS (f : FR) (v : Nat → Int32) : FR := (fw f, fk f, v, fr f, fp f, fd f, fa f)
abbrev frS (f : FR) (v : Nat → Int32) : FR := (fw f, fk f, fs f, v, fp f, fd f, fa f)
abbrev fpS (f : FR) (v : Int32) : FR := (fw f, fk f, fs f, fr f, v, fd f, fa f)
abbrev fdS (f : FR) (v : Int32) : FR := (fw f, fk f, fs f, fr f, fp f, v, fa f)
abbrev faS (f : FR) (v : Int32) : FR := (fw f, fk f, fs f, fr f, fp f, fd f, v)
/-- the class: fleets, the sets of each harbour, the order of the states, how many states, whether there is a snapshot, characters, firsts, lasts, length, ranges -/
abbrev XS : Type := (Nat → FR) × (Nat → Int32) × (Nat → Nat) × Int32 × Int32 × (Nat → Int32) × (Nat → Int32) × (Nat → Int32) × Int32 × Int32
abbrev xF (X : XS) : Nat → FR := X.1
abbrev xh (X : XS) : Nat → Int32 := X.2.1
abbrev xq (X : XS) : Nat → Nat := X.2.2.1
abbrev xz (X : XS) : Int32 := X.2.2.2.1
abbrev xn (X : XS) : Int32 := X.2.2.2.2.1
abbrev xc (X : XS) : Nat → Int32 := X.2.2.2.2.2.1
abbrev xb (X : XS) : Nat → Int32 := X.2.2.2.2.2.2.1
abbrev xe (X : XS) : Nat → Int32 := X.2.2.2.2.2.2.2.1
abbrev xl (X : XS) : Int32 := X.2.2.2.2.2.2.2.2.1
abbrev xm (X : XS) : Int32 := X.2.2.2.2.2.2.2.2.2
abbrev xFS (X : XS) (v : Nat → FR) : XS := (v, xh X, xq X, xz X, xn X, xc X, xb X, xe X, xl X, xm X)
abbrev xhS (X : XS) (v : Nat → Int32) : XS := (xF X, v, xq X, xz X, xn X, xc X, xb X, xe X, xl X, xm X)
abbrev xqS (X : XS) (v : Nat → Nat) : XS := (xF X, xh X, v, xz X, xn X, xc X, xb X, xe X, xl X, xm X)
abbrev xzS (X : XS) (v : Int32) : XS := (xF X, xh X, xq X, v, xn X, xc X, xb X, xe X, xl X, xm X)
abbrev xnS (X : XS) (v : Int32) : XS := (xF X, xh X, xq X, xz X, v, xc X, xb X, xe X, xl X, xm X)
abbrev xcS (X : XS) (v : Nat → Int32) : XS := (xF X, xh X, xq X, xz X, xn X, v, xb X, xe X, xl X, xm X)
abbrev xbS (X : XS) (v : Nat → Int32) : XS := (xF X, xh X, xq X, xz X, xn X, xc X, v, xe X, xl X, xm X)
abbrev xeS (X : XS) (v : Nat → Int32) : XS := (xF X, xh X, xq X, xz X, xn X, xc X, xb X, v, xl X, xm X)
abbrev xlS (X : XS) (v : Int32) : XS := (xF X, xh X, xq X, xz X, xn X, xc X, xb X, xe X, v, xm X)
abbrev xmS (X : XS) (v : Int32) : XS := (xF X, xh X, xq X, xz X, xn X, xc X, xb X, xe X, xl X, v)
/-- the reference: now, past, kept, trial, text, given, numbers; pasts, isKept, typed, looked, readMany, at -/
abbrev YS : Type := (Nat → Int32) × (Nat → Int32) × (Nat → Int32) × (Nat → Int32) × (Nat → Int32) × (Nat → Int32) × (Nat → Int32) × Int32 × Int32 × Int32 × Int32 × Int32 × Int32
abbrev yn (Y : YS) : Nat → Int32 := Y.1
abbrev yp (Y : YS) : Nat → Int32 := Y.2.1
abbrev yk (Y : YS) : Nat → Int32 := Y.2.2.1
abbrev yt (Y : YS) : Nat → Int32 := Y.2.2.2.1
abbrev yx (Y : YS) : Nat → Int32 := Y.2.2.2.2.1
abbrev yg (Y : YS) : Nat → Int32 := Y.2.2.2.2.2.1
abbrev yu (Y : YS) : Nat → Int32 := Y.2.2.2.2.2.2.1
abbrev yz (Y : YS) : Int32 := Y.2.2.2.2.2.2.2.1
abbrev yi (Y : YS) : Int32 := Y.2.2.2.2.2.2.2.2.1
abbrev yy (Y : YS) : Int32 := Y.2.2.2.2.2.2.2.2.2.1
abbrev yo (Y : YS) : Int32 := Y.2.2.2.2.2.2.2.2.2.2.1
abbrev ym (Y : YS) : Int32 := Y.2.2.2.2.2.2.2.2.2.2.2.1
abbrev ya (Y : YS) : Int32 := Y.2.2.2.2.2.2.2.2.2.2.2.2
abbrev ynS (Y : YS) (v : Nat → Int32) : YS := (v, yp Y, yk Y, yt Y, yx Y, yg Y, yu Y, yz Y, yi Y, yy Y, yo Y, ym Y, ya Y)
abbrev ypS (Y : YS) (v : Nat → Int32) : YS := (yn Y, v, yk Y, yt Y, yx Y, yg Y, yu Y, yz Y, yi Y, yy Y, yo Y, ym Y, ya Y)
abbrev ykS (Y : YS) (v : Nat → Int32) : YS := (yn Y, yp Y, v, yt Y, yx Y, yg Y, yu Y, yz Y, yi Y, yy Y, yo Y, ym Y, ya Y)
abbrev ytS (Y : YS) (v : Nat → Int32) : YS := (yn Y, yp Y, yk Y, v, yx Y, yg Y, yu Y, yz Y, yi Y, yy Y, yo Y, ym Y, ya Y)
abbrev yxS (Y : YS) (v : Nat → Int32) : YS := (yn Y, yp Y, yk Y, yt Y, v, yg Y, yu Y, yz Y, yi Y, yy Y, yo Y, ym Y, ya Y)
abbrev ygS (Y : YS) (v : Nat → Int32) : YS := (yn Y, yp Y, yk Y, yt Y, yx Y, v, yu Y, yz Y, yi Y, yy Y, yo Y, ym Y, ya Y)
abbrev yuS (Y : YS) (v : Nat → Int32) : YS := (yn Y, yp Y, yk Y, yt Y, yx Y, yg Y, v, yz Y, yi Y, yy Y, yo Y, ym Y, ya Y)
abbrev yzS (Y : YS) (v : Int32) : YS := (yn Y, yp Y, yk Y, yt Y, yx Y, yg Y, yu Y, v, yi Y, yy Y, yo Y, ym Y, ya Y)
abbrev yiS (Y : YS) (v : Int32) : YS := (yn Y, yp Y, yk Y, yt Y, yx Y, yg Y, yu Y, yz Y, v, yy Y, yo Y, ym Y, ya Y)
abbrev yyS (Y : YS) (v : Int32) : YS := (yn Y, yp Y, yk Y, yt Y, yx Y, yg Y, yu Y, yz Y, yi Y, v, yo Y, ym Y, ya Y)
abbrev yoS (Y : YS) (v : Int32) : YS := (yn Y, yp Y, yk Y, yt Y, yx Y, yg Y, yu Y, yz Y, yi Y, yy Y, v, ym Y, ya Y)
abbrev ymS (Y : YS) (v : Int32) : YS := (yn Y, yp Y, yk Y, yt Y, yx Y, yg Y, yu Y, yz Y, yi Y, yy Y, yo Y, v, ya Y)
abbrev yaS (Y : YS) (v : Int32) : YS := (yn Y, yp Y, yk Y, yt Y, yx Y, yg Y, yu Y, yz Y, yi Y, yy Y, yo Y, ym Y, v)
def xFi (X : XS) (i : Nat) (f : FR) : XS := (va_up X.1 i f, X.2)
theorem xFi_at (X : XS) (i : Nat) (f : FR) : (xFi X i f).1 i = f := va_up_self _ _ _
theorem xFi_ne (X : XS) {i j : Nat} (f : FR) (h : j ≠ i) : (xFi X i f).1 j = X.1 j := va_up_ne _ _ h
theorem xFi_2 (X : XS) (i : Nat) (f g : FR) : xFi (xFi X i f) i g = xFi X i g := by
  unfold xFi
  refine Prod.ext (funext fun j => ?_) rfl
  by_cases h : j = i
  · subst h; simp [va_up]
  · simp [va_up, h]
theorem xFi_self {X : XS} {i : Nat} {f : FR} (h : X.1 i = f) : X = xFi X i f := by
  subst h
  refine Prod.ext (funext fun j => ?_) rfl
  by_cases h : j = i
  · subst h; simp [xFi, va_up]
  · simp [xFi, va_up, h]
def fcell (Λ : Lk) (i c : Nat) (f : FR) : va_E :=
  if c = 0 then .inr (0, [rf Λ (5 * i + 1), rf Λ (5 * i + 2), rf Λ (5 * i + 3), rf Λ (5 * i + 4), .int (fp f), .int (fd f), .int (fa f)])
  else if c = 1 then .inl (Λ.2.2.2.1 0, 32, .inr (.inl (fw f)))
  else if c = 2 then .inl (Λ.2.2.2.1 1, 8, .inl (fk f))
  else if c = 3 then .inl (Λ.2.2.2.1 1, 8, .inl (fs f))
  else .inl (Λ.2.2.2.1 1, 8, .inl (fr f))
def hcell (Λ : Lk) (X : XS) (r : Nat) : va_E := if r % 2 = 1 then .inr (1, [rf Λ (r + 1), .int (xh X ((r - 185) / 2))]) else .inl (Λ.2.2.2.1 3, 6, .inr (.inr (.inr (.inr (fun j => some (Λ.2.1 (5 * (6 * ((r - 186) / 2) + j))))))))
/-- the memory by roles -/
def CC (Λ : Lk) (X : XS) (Y : YS) : Mem := fun r =>
  if r < 185 then fcell Λ (r / 5) (r % 5) (xF X (r / 5))
  else if r < 197 then hcell Λ X r
  else if r = 197 then (.inr (4, [rf Λ 185, rf Λ 187, rf Λ 198, rf Λ 200, rf Λ 180, .int (xn X)]))
  else if r = 198 then (.inr (2, [rf Λ 199, .int (xz X)]))
  else if r = 199 then (.inl (Λ.2.2.2.1 4, 4, .inr (.inr (.inr (.inr (fun j => some (Λ.2.1 (189 + 2 * xq X j))))))))
  else if r = 200 then (.inr (3, [rf Λ 201, rf Λ 202, rf Λ 203, .int (xl X), .int (xm X)]))
  else if r = 201 then (.inl (Λ.2.2.2.1 2, 60, .inl (xc X)))
  else if r = 202 then (.inl (Λ.2.2.2.1 1, 30, .inl (xb X)))
  else if r = 203 then (.inl (Λ.2.2.2.1 1, 30, .inl (xe X)))
  else if r = 204 then (.inr (5, [rf Λ 205, rf Λ 206, .int (yz Y), rf Λ 207, .int (yi Y), rf Λ 208, rf Λ 209, .int (yy Y), .int (yo Y), rf Λ 210, rf Λ 211, .int (ym Y), .int (ya Y)]))
  else if r = 205 then (.inl (Λ.2.2.2.1 1, 451, .inl (yn Y)))
  else if r = 206 then (.inl (Λ.2.2.2.1 1, 1804, .inl (yp Y)))
  else if r = 207 then (.inl (Λ.2.2.2.1 1, 451, .inl (yk Y)))
  else if r = 208 then (.inl (Λ.2.2.2.1 1, 451, .inl (yt Y)))
  else if r = 209 then (.inl (Λ.2.2.2.1 1, 60, .inl (yx Y)))
  else if r = 210 then (.inl (Λ.2.2.2.1 1, 64, .inl (yg Y)))
  else if r = 211 then (.inl (Λ.2.2.2.1 1, 60, .inl (yu Y)))
  else .inl (Λ.2.2.2.1 1, 0, .inl (fun _ => 0))
theorem cc_197 (Λ : Lk) (X : XS) (Y : YS) : CC Λ X Y 197 = .inr (4, [rf Λ 185, rf Λ 187, rf Λ 198, rf Λ 200, rf Λ 180, .int (xn X)]) := rfl
theorem cc_198 (Λ : Lk) (X : XS) (Y : YS) : CC Λ X Y 198 = .inr (2, [rf Λ 199, .int (xz X)]) := rfl
theorem cc_199 (Λ : Lk) (X : XS) (Y : YS) : CC Λ X Y 199 = .inl (Λ.2.2.2.1 4, 4, .inr (.inr (.inr (.inr (fun j => some (Λ.2.1 (189 + 2 * xq X j))))))) := rfl
theorem cc_200 (Λ : Lk) (X : XS) (Y : YS) : CC Λ X Y 200 = .inr (3, [rf Λ 201, rf Λ 202, rf Λ 203, .int (xl X), .int (xm X)]) := rfl
theorem cc_201 (Λ : Lk) (X : XS) (Y : YS) : CC Λ X Y 201 = .inl (Λ.2.2.2.1 2, 60, .inl (xc X)) := rfl
theorem cc_202 (Λ : Lk) (X : XS) (Y : YS) : CC Λ X Y 202 = .inl (Λ.2.2.2.1 1, 30, .inl (xb X)) := rfl
theorem cc_203 (Λ : Lk) (X : XS) (Y : YS) : CC Λ X Y 203 = .inl (Λ.2.2.2.1 1, 30, .inl (xe X)) := rfl
theorem cc_204 (Λ : Lk) (X : XS) (Y : YS) : CC Λ X Y 204 = .inr (5, [rf Λ 205, rf Λ 206, .int (yz Y), rf Λ 207, .int (yi Y), rf Λ 208, rf Λ 209, .int (yy Y), .int (yo Y), rf Λ 210, rf Λ 211, .int (ym Y), .int (ya Y)]) := rfl
theorem cc_205 (Λ : Lk) (X : XS) (Y : YS) : CC Λ X Y 205 = .inl (Λ.2.2.2.1 1, 451, .inl (yn Y)) := rfl
theorem cc_206 (Λ : Lk) (X : XS) (Y : YS) : CC Λ X Y 206 = .inl (Λ.2.2.2.1 1, 1804, .inl (yp Y)) := rfl
theorem cc_207 (Λ : Lk) (X : XS) (Y : YS) : CC Λ X Y 207 = .inl (Λ.2.2.2.1 1, 451, .inl (yk Y)) := rfl
theorem cc_208 (Λ : Lk) (X : XS) (Y : YS) : CC Λ X Y 208 = .inl (Λ.2.2.2.1 1, 451, .inl (yt Y)) := rfl
theorem cc_209 (Λ : Lk) (X : XS) (Y : YS) : CC Λ X Y 209 = .inl (Λ.2.2.2.1 1, 60, .inl (yx Y)) := rfl
theorem cc_210 (Λ : Lk) (X : XS) (Y : YS) : CC Λ X Y 210 = .inl (Λ.2.2.2.1 1, 64, .inl (yg Y)) := rfl
theorem cc_211 (Λ : Lk) (X : XS) (Y : YS) : CC Λ X Y 211 = .inl (Λ.2.2.2.1 1, 60, .inl (yu Y)) := rfl
theorem nR_of {r : Nat} (h : r < 212) : r < nR := h
theorem cc_f (Λ : Lk) {X : XS} (Y : YS) {i c : Nat} {f : FR} (hi : i < 37) (hc : c < 5) (hf : X.1 i = f) : CC Λ X Y (5 * i + c) = fcell Λ i c f := by
  unfold CC
  rw [if_pos (by omega), show (5 * i + c) / 5 = i by omega, show (5 * i + c) % 5 = c by omega, ← hf]
theorem cc_f0 (Λ : Lk) {X : XS} (Y : YS) {i : Nat} {f : FR} (hi : i < 37) (hf : X.1 i = f) : CC Λ X Y (5 * i) = .inr (0, [rf Λ (5 * i + 1), rf Λ (5 * i + 2), rf Λ (5 * i + 3), rf Λ (5 * i + 4), .int (fp f), .int (fd f), .int (fa f)]) := cc_f Λ Y (c := 0) hi (by omega) hf
theorem cc_f1 (Λ : Lk) {X : XS} (Y : YS) {i : Nat} {f : FR} (hi : i < 37) (hf : X.1 i = f) : CC Λ X Y (5 * i + 1) = .inl (Λ.2.2.2.1 0, 32, .inr (.inl (fw f))) := cc_f Λ Y (c := 1) hi (by omega) hf
theorem cc_f2 (Λ : Lk) {X : XS} (Y : YS) {i : Nat} {f : FR} (hi : i < 37) (hf : X.1 i = f) : CC Λ X Y (5 * i + 2) = .inl (Λ.2.2.2.1 1, 8, .inl (fk f)) := cc_f Λ Y (c := 2) hi (by omega) hf
theorem cc_f3 (Λ : Lk) {X : XS} (Y : YS) {i : Nat} {f : FR} (hi : i < 37) (hf : X.1 i = f) : CC Λ X Y (5 * i + 3) = .inl (Λ.2.2.2.1 1, 8, .inl (fs f)) := cc_f Λ Y (c := 3) hi (by omega) hf
theorem cc_f4 (Λ : Lk) {X : XS} (Y : YS) {i : Nat} {f : FR} (hi : i < 37) (hf : X.1 i = f) : CC Λ X Y (5 * i + 4) = .inl (Λ.2.2.2.1 1, 8, .inl (fr f)) := cc_f Λ Y (c := 4) hi (by omega) hf
theorem rb_f {i c : Nat} (hi : i < 37) (hc : c < 5) : 5 * i + c < nR := by unfold nR; omega
theorem rb_f0 {i : Nat} (hi : i < 37) : 5 * i < nR := by unfold nR; omega
theorem cc_h (Λ : Lk) (X : XS) (Y : YS) {h : Nat} (hh : h < 6) : CC Λ X Y (185 + 2 * h) = .inr (1, [rf Λ (186 + 2 * h), .int (xh X h)]) := by
  unfold CC hcell
  rw [if_neg (by omega), if_pos (by omega), if_pos (by omega), show 185 + 2 * h + 1 = 186 + 2 * h by omega, show (185 + 2 * h - 185) / 2 = h by omega]
theorem cc_hr (Λ : Lk) (X : XS) (Y : YS) {h : Nat} (hh : h < 6) : CC Λ X Y (186 + 2 * h) = .inl (Λ.2.2.2.1 3, 6, .inr (.inr (.inr (.inr (fun j => some (Λ.2.1 (5 * (6 * h + j)))))))) := by
  unfold CC hcell
  rw [if_neg (by omega), if_pos (by omega), if_neg (by omega), show (186 + 2 * h - 186) / 2 = h by omega]
theorem rb_h {h : Nat} (hh : h < 6) : 185 + 2 * h < nR := by unfold nR; omega
theorem rb_hr {h : Nat} (hh : h < 6) : 186 + 2 * h < nR := by unfold nR; omega
/-- a fleet's cell is written -/
theorem cs_f (Λ : Lk) (X : XS) (Y : YS) {i c : Nat} (f g : FR) {e : va_E} (hi : i < 37) (hc : c < 5) (he : e = fcell Λ i c g) (ho : ∀ c', c' < 5 → c' ≠ c → fcell Λ i c' g = fcell Λ i c' f) : va_up (CC Λ (xFi X i f) Y) (5 * i + c) e = CC Λ (xFi X i g) Y := by
  funext r
  by_cases hr : r = 5 * i + c
  · subst hr
    rw [va_up_self, he, cc_f Λ Y hi hc (xFi_at X i g)]
  · rw [va_up_ne _ _ hr]
    by_cases h1 : r < 185
    · by_cases h2 : r / 5 = i
      · have e1 : r = 5 * i + r % 5 := by omega
        have h3 : r % 5 < 5 := by omega
        have h4 : r % 5 ≠ c := by omega
        rw [e1, cc_f Λ Y hi h3 (xFi_at X i f), cc_f Λ Y hi h3 (xFi_at X i g)]
        exact (ho _ h3 h4).symm
      · unfold CC
        rw [if_pos h1, if_pos h1]
        show fcell Λ (r / 5) (r % 5) ((xFi X i f).1 (r / 5)) = fcell Λ (r / 5) (r % 5) ((xFi X i g).1 (r / 5))
        rw [xFi_ne X f h2, xFi_ne X g h2]
    · unfold CC
      rw [if_neg h1, if_neg h1]
      rfl
theorem cs_hs (Λ : Lk) (X : XS) (Y : YS) {h : Nat} (hh : h < 6) (v : Int32) : va_up (CC Λ X Y) (185 + 2 * h) (.inr (1, [rf Λ (186 + 2 * h), .int v])) = CC Λ (xhS X (va_up (xh X) h v)) Y := by
  funext r
  by_cases hr : r = 185 + 2 * h
  · subst hr
    rw [va_up_self, cc_h Λ _ Y hh]
    show _ = Sum.inr (1, [rf Λ (186 + 2 * h), Value.int (va_up (xh X) h v h)])
    rw [va_up_self]
  · rw [va_up_ne _ _ hr]
    unfold CC
    by_cases h1 : r < 185
    · rw [if_pos h1, if_pos h1]
    · rw [if_neg h1, if_neg h1]
      by_cases h2 : r < 197
      · rw [if_pos h2, if_pos h2]
        unfold hcell
        by_cases h3 : r % 2 = 1
        · rw [if_pos h3, if_pos h3]
          have h4 : (r - 185) / 2 ≠ h := by omega
          show _ = Sum.inr (1, [rf Λ (r + 1), Value.int (va_up (xh X) h v ((r - 185) / 2))])
          rw [va_up_ne _ _ h4]
        · rw [if_neg h3, if_neg h3]
      · rw [if_neg h2, if_neg h2]
theorem cs_fw (Λ : Lk) (X : XS) (Y : YS) {i : Nat} (f : FR) (v : Nat → Int64) (hi : i < 37) : va_up (CC Λ (xFi X i f) Y) (5 * i + 1) (.inl (Λ.2.2.2.1 0, 32, .inr (.inl v))) = CC Λ (xFi X i (fwS f v)) Y := cs_f Λ X Y (c := 1) f (fwS f v) hi (by omega) rfl (fun c' h1 h2 => by
  rcases (show c' = 0 ∨ c' = 1 ∨ c' = 2 ∨ c' = 3 ∨ c' = 4 by omega) with rfl | rfl | rfl | rfl | rfl <;> first | rfl | exact absurd rfl h2)
theorem cs_fk (Λ : Lk) (X : XS) (Y : YS) {i : Nat} (f : FR) (v : Nat → Int32) (hi : i < 37) : va_up (CC Λ (xFi X i f) Y) (5 * i + 2) (.inl (Λ.2.2.2.1 1, 8, .inl v)) = CC Λ (xFi X i (fkS f v)) Y := cs_f Λ X Y (c := 2) f (fkS f v) hi (by omega) rfl (fun c' h1 h2 => by
  rcases (show c' = 0 ∨ c' = 1 ∨ c' = 2 ∨ c' = 3 ∨ c' = 4 by omega) with rfl | rfl | rfl | rfl | rfl <;> first | rfl | exact absurd rfl h2)
theorem cs_fs (Λ : Lk) (X : XS) (Y : YS) {i : Nat} (f : FR) (v : Nat → Int32) (hi : i < 37) : va_up (CC Λ (xFi X i f) Y) (5 * i + 3) (.inl (Λ.2.2.2.1 1, 8, .inl v)) = CC Λ (xFi X i (fsS f v)) Y := cs_f Λ X Y (c := 3) f (fsS f v) hi (by omega) rfl (fun c' h1 h2 => by
  rcases (show c' = 0 ∨ c' = 1 ∨ c' = 2 ∨ c' = 3 ∨ c' = 4 by omega) with rfl | rfl | rfl | rfl | rfl <;> first | rfl | exact absurd rfl h2)
theorem cs_fr (Λ : Lk) (X : XS) (Y : YS) {i : Nat} (f : FR) (v : Nat → Int32) (hi : i < 37) : va_up (CC Λ (xFi X i f) Y) (5 * i + 4) (.inl (Λ.2.2.2.1 1, 8, .inl v)) = CC Λ (xFi X i (frS f v)) Y := cs_f Λ X Y (c := 4) f (frS f v) hi (by omega) rfl (fun c' h1 h2 => by
  rcases (show c' = 0 ∨ c' = 1 ∨ c' = 2 ∨ c' = 3 ∨ c' = 4 by omega) with rfl | rfl | rfl | rfl | rfl <;> first | rfl | exact absurd rfl h2)
theorem cs_fp (Λ : Lk) (X : XS) (Y : YS) {i : Nat} (f : FR) (v : Int32) (hi : i < 37) : va_up (CC Λ (xFi X i f) Y) (5 * i) (.inr (0, [rf Λ (5 * i + 1), rf Λ (5 * i + 2), rf Λ (5 * i + 3), rf Λ (5 * i + 4), .int v, .int (fd f), .int (fa f)])) = CC Λ (xFi X i (fpS f v)) Y := cs_f Λ X Y (c := 0) f (fpS f v) hi (by omega) rfl (fun c' h1 h2 => by
  rcases (show c' = 0 ∨ c' = 1 ∨ c' = 2 ∨ c' = 3 ∨ c' = 4 by omega) with rfl | rfl | rfl | rfl | rfl <;> first | rfl | exact absurd rfl h2)
theorem cs_fd (Λ : Lk) (X : XS) (Y : YS) {i : Nat} (f : FR) (v : Int32) (hi : i < 37) : va_up (CC Λ (xFi X i f) Y) (5 * i) (.inr (0, [rf Λ (5 * i + 1), rf Λ (5 * i + 2), rf Λ (5 * i + 3), rf Λ (5 * i + 4), .int (fp f), .int v, .int (fa f)])) = CC Λ (xFi X i (fdS f v)) Y := cs_f Λ X Y (c := 0) f (fdS f v) hi (by omega) rfl (fun c' h1 h2 => by
  rcases (show c' = 0 ∨ c' = 1 ∨ c' = 2 ∨ c' = 3 ∨ c' = 4 by omega) with rfl | rfl | rfl | rfl | rfl <;> first | rfl | exact absurd rfl h2)
theorem cs_fa (Λ : Lk) (X : XS) (Y : YS) {i : Nat} (f : FR) (v : Int32) (hi : i < 37) : va_up (CC Λ (xFi X i f) Y) (5 * i) (.inr (0, [rf Λ (5 * i + 1), rf Λ (5 * i + 2), rf Λ (5 * i + 3), rf Λ (5 * i + 4), .int (fp f), .int (fd f), .int v])) = CC Λ (xFi X i (faS f v)) Y := cs_f Λ X Y (c := 0) f (faS f v) hi (by omega) rfl (fun c' h1 h2 => by
  rcases (show c' = 0 ∨ c' = 1 ∨ c' = 2 ∨ c' = 3 ∨ c' = 4 by omega) with rfl | rfl | rfl | rfl | rfl <;> first | rfl | exact absurd rfl h2)
theorem cc_low (Λ : Lk) {X X' : XS} {Y Y' : YS} (h1 : xF X = xF X') (h2 : xh X = xh X') {r : Nat} (hr : r < 197) : CC Λ X Y r = CC Λ X' Y' r := by
  unfold CC
  by_cases h : r < 185
  · rw [if_pos h, if_pos h, h1]
  · rw [if_neg h, if_pos hr, if_neg h, if_pos hr]
    unfold hcell
    rw [h2]
theorem cc_big (Λ : Lk) (X : XS) (Y : YS) {r : Nat} (hr : 212 ≤ r) : CC Λ X Y r = .inl (Λ.2.2.2.1 1, 0, .inl (fun _ => 0)) := by
  unfold CC
  rw [if_neg (by omega), if_neg (by omega), if_neg (by omega), if_neg (by omega), if_neg (by omega), if_neg (by omega), if_neg (by omega), if_neg (by omega), if_neg (by omega), if_neg (by omega), if_neg (by omega), if_neg (by omega), if_neg (by omega), if_neg (by omega), if_neg (by omega), if_neg (by omega), if_neg (by omega)]
theorem r_cases {r : Nat} (h1 : ¬ r < 197) (h2 : ¬ 212 ≤ r) : r = 197 ∨ r = 198 ∨ r = 199 ∨ r = 200 ∨ r = 201 ∨ r = 202 ∨ r = 203 ∨ r = 204 ∨ r = 205 ∨ r = 206 ∨ r = 207 ∨ r = 208 ∨ r = 209 ∨ r = 210 ∨ r = 211 := by omega
theorem cs_n (Λ : Lk) (X : XS) (Y : YS) (v : Int32) : va_up (CC Λ X Y) 197 (.inr (4, [rf Λ 185, rf Λ 187, rf Λ 198, rf Λ 200, rf Λ 180, .int v])) = CC Λ (xnS X v) (Y) := by
  funext r
  by_cases h1 : r < 197
  · rw [va_up_ne _ _ (by omega)]; exact cc_low Λ (X := X) (X' := xnS X v) (Y := Y) (Y' := Y) rfl rfl h1
  by_cases h2 : 212 ≤ r
  · rw [va_up_ne _ _ (by omega), cc_big Λ _ _ h2, cc_big Λ _ _ h2]
  rcases r_cases h1 h2 with rfl | rfl | rfl | rfl | rfl | rfl | rfl | rfl | rfl | rfl | rfl | rfl | rfl | rfl | rfl <;> rfl
theorem cs_z (Λ : Lk) (X : XS) (Y : YS) (v : Int32) : va_up (CC Λ X Y) 198 (.inr (2, [rf Λ 199, .int v])) = CC Λ (xzS X v) (Y) := by
  funext r
  by_cases h1 : r < 197
  · rw [va_up_ne _ _ (by omega)]; exact cc_low Λ (X := X) (X' := xzS X v) (Y := Y) (Y' := Y) rfl rfl h1
  by_cases h2 : 212 ≤ r
  · rw [va_up_ne _ _ (by omega), cc_big Λ _ _ h2, cc_big Λ _ _ h2]
  rcases r_cases h1 h2 with rfl | rfl | rfl | rfl | rfl | rfl | rfl | rfl | rfl | rfl | rfl | rfl | rfl | rfl | rfl <;> rfl
theorem cs_q (Λ : Lk) (X : XS) (Y : YS) (v : Nat → Nat) : va_up (CC Λ X Y) 199 (.inl (Λ.2.2.2.1 4, 4, .inr (.inr (.inr (.inr (fun j => some (Λ.2.1 (189 + 2 * v j)))))))) = CC Λ (xqS X v) (Y) := by
  funext r
  by_cases h1 : r < 197
  · rw [va_up_ne _ _ (by omega)]; exact cc_low Λ (X := X) (X' := xqS X v) (Y := Y) (Y' := Y) rfl rfl h1
  by_cases h2 : 212 ≤ r
  · rw [va_up_ne _ _ (by omega), cc_big Λ _ _ h2, cc_big Λ _ _ h2]
  rcases r_cases h1 h2 with rfl | rfl | rfl | rfl | rfl | rfl | rfl | rfl | rfl | rfl | rfl | rfl | rfl | rfl | rfl <;> rfl
theorem cs_l (Λ : Lk) (X : XS) (Y : YS) (v : Int32) : va_up (CC Λ X Y) 200 (.inr (3, [rf Λ 201, rf Λ 202, rf Λ 203, .int v, .int (xm X)])) = CC Λ (xlS X v) (Y) := by
  funext r
  by_cases h1 : r < 197
  · rw [va_up_ne _ _ (by omega)]; exact cc_low Λ (X := X) (X' := xlS X v) (Y := Y) (Y' := Y) rfl rfl h1
  by_cases h2 : 212 ≤ r
  · rw [va_up_ne _ _ (by omega), cc_big Λ _ _ h2, cc_big Λ _ _ h2]
  rcases r_cases h1 h2 with rfl | rfl | rfl | rfl | rfl | rfl | rfl | rfl | rfl | rfl | rfl | rfl | rfl | rfl | rfl <;> rfl
theorem cs_m (Λ : Lk) (X : XS) (Y : YS) (v : Int32) : va_up (CC Λ X Y) 200 (.inr (3, [rf Λ 201, rf Λ 202, rf Λ 203, .int (xl X), .int v])) = CC Λ (xmS X v) (Y) := by
  funext r
  by_cases h1 : r < 197
  · rw [va_up_ne _ _ (by omega)]; exact cc_low Λ (X := X) (X' := xmS X v) (Y := Y) (Y' := Y) rfl rfl h1
  by_cases h2 : 212 ≤ r
  · rw [va_up_ne _ _ (by omega), cc_big Λ _ _ h2, cc_big Λ _ _ h2]
  rcases r_cases h1 h2 with rfl | rfl | rfl | rfl | rfl | rfl | rfl | rfl | rfl | rfl | rfl | rfl | rfl | rfl | rfl <;> rfl
theorem cs_c (Λ : Lk) (X : XS) (Y : YS) (v : Nat → Int32) : va_up (CC Λ X Y) 201 (.inl (Λ.2.2.2.1 2, 60, .inl v)) = CC Λ (xcS X v) (Y) := by
  funext r
  by_cases h1 : r < 197
  · rw [va_up_ne _ _ (by omega)]; exact cc_low Λ (X := X) (X' := xcS X v) (Y := Y) (Y' := Y) rfl rfl h1
  by_cases h2 : 212 ≤ r
  · rw [va_up_ne _ _ (by omega), cc_big Λ _ _ h2, cc_big Λ _ _ h2]
  rcases r_cases h1 h2 with rfl | rfl | rfl | rfl | rfl | rfl | rfl | rfl | rfl | rfl | rfl | rfl | rfl | rfl | rfl <;> rfl
theorem cs_b (Λ : Lk) (X : XS) (Y : YS) (v : Nat → Int32) : va_up (CC Λ X Y) 202 (.inl (Λ.2.2.2.1 1, 30, .inl v)) = CC Λ (xbS X v) (Y) := by
  funext r
  by_cases h1 : r < 197
  · rw [va_up_ne _ _ (by omega)]; exact cc_low Λ (X := X) (X' := xbS X v) (Y := Y) (Y' := Y) rfl rfl h1
  by_cases h2 : 212 ≤ r
  · rw [va_up_ne _ _ (by omega), cc_big Λ _ _ h2, cc_big Λ _ _ h2]
  rcases r_cases h1 h2 with rfl | rfl | rfl | rfl | rfl | rfl | rfl | rfl | rfl | rfl | rfl | rfl | rfl | rfl | rfl <;> rfl
theorem cs_e (Λ : Lk) (X : XS) (Y : YS) (v : Nat → Int32) : va_up (CC Λ X Y) 203 (.inl (Λ.2.2.2.1 1, 30, .inl v)) = CC Λ (xeS X v) (Y) := by
  funext r
  by_cases h1 : r < 197
  · rw [va_up_ne _ _ (by omega)]; exact cc_low Λ (X := X) (X' := xeS X v) (Y := Y) (Y' := Y) rfl rfl h1
  by_cases h2 : 212 ≤ r
  · rw [va_up_ne _ _ (by omega), cc_big Λ _ _ h2, cc_big Λ _ _ h2]
  rcases r_cases h1 h2 with rfl | rfl | rfl | rfl | rfl | rfl | rfl | rfl | rfl | rfl | rfl | rfl | rfl | rfl | rfl <;> rfl
theorem cs_yz (Λ : Lk) (X : XS) (Y : YS) (v : Int32) : va_up (CC Λ X Y) 204 (.inr (5, [rf Λ 205, rf Λ 206, .int v, rf Λ 207, .int (yi Y), rf Λ 208, rf Λ 209, .int (yy Y), .int (yo Y), rf Λ 210, rf Λ 211, .int (ym Y), .int (ya Y)])) = CC Λ (X) (yzS Y v) := by
  funext r
  by_cases h1 : r < 197
  · rw [va_up_ne _ _ (by omega)]; exact cc_low Λ (X := X) (X' := X) (Y := Y) (Y' := yzS Y v) rfl rfl h1
  by_cases h2 : 212 ≤ r
  · rw [va_up_ne _ _ (by omega), cc_big Λ _ _ h2, cc_big Λ _ _ h2]
  rcases r_cases h1 h2 with rfl | rfl | rfl | rfl | rfl | rfl | rfl | rfl | rfl | rfl | rfl | rfl | rfl | rfl | rfl <;> rfl
theorem cs_yi (Λ : Lk) (X : XS) (Y : YS) (v : Int32) : va_up (CC Λ X Y) 204 (.inr (5, [rf Λ 205, rf Λ 206, .int (yz Y), rf Λ 207, .int v, rf Λ 208, rf Λ 209, .int (yy Y), .int (yo Y), rf Λ 210, rf Λ 211, .int (ym Y), .int (ya Y)])) = CC Λ (X) (yiS Y v) := by
  funext r
  by_cases h1 : r < 197
  · rw [va_up_ne _ _ (by omega)]; exact cc_low Λ (X := X) (X' := X) (Y := Y) (Y' := yiS Y v) rfl rfl h1
  by_cases h2 : 212 ≤ r
  · rw [va_up_ne _ _ (by omega), cc_big Λ _ _ h2, cc_big Λ _ _ h2]
  rcases r_cases h1 h2 with rfl | rfl | rfl | rfl | rfl | rfl | rfl | rfl | rfl | rfl | rfl | rfl | rfl | rfl | rfl <;> rfl
theorem cs_yy (Λ : Lk) (X : XS) (Y : YS) (v : Int32) : va_up (CC Λ X Y) 204 (.inr (5, [rf Λ 205, rf Λ 206, .int (yz Y), rf Λ 207, .int (yi Y), rf Λ 208, rf Λ 209, .int v, .int (yo Y), rf Λ 210, rf Λ 211, .int (ym Y), .int (ya Y)])) = CC Λ (X) (yyS Y v) := by
  funext r
  by_cases h1 : r < 197
  · rw [va_up_ne _ _ (by omega)]; exact cc_low Λ (X := X) (X' := X) (Y := Y) (Y' := yyS Y v) rfl rfl h1
  by_cases h2 : 212 ≤ r
  · rw [va_up_ne _ _ (by omega), cc_big Λ _ _ h2, cc_big Λ _ _ h2]
  rcases r_cases h1 h2 with rfl | rfl | rfl | rfl | rfl | rfl | rfl | rfl | rfl | rfl | rfl | rfl | rfl | rfl | rfl <;> rfl
theorem cs_yo (Λ : Lk) (X : XS) (Y : YS) (v : Int32) : va_up (CC Λ X Y) 204 (.inr (5, [rf Λ 205, rf Λ 206, .int (yz Y), rf Λ 207, .int (yi Y), rf Λ 208, rf Λ 209, .int (yy Y), .int v, rf Λ 210, rf Λ 211, .int (ym Y), .int (ya Y)])) = CC Λ (X) (yoS Y v) := by
  funext r
  by_cases h1 : r < 197
  · rw [va_up_ne _ _ (by omega)]; exact cc_low Λ (X := X) (X' := X) (Y := Y) (Y' := yoS Y v) rfl rfl h1
  by_cases h2 : 212 ≤ r
  · rw [va_up_ne _ _ (by omega), cc_big Λ _ _ h2, cc_big Λ _ _ h2]
  rcases r_cases h1 h2 with rfl | rfl | rfl | rfl | rfl | rfl | rfl | rfl | rfl | rfl | rfl | rfl | rfl | rfl | rfl <;> rfl
theorem cs_ym (Λ : Lk) (X : XS) (Y : YS) (v : Int32) : va_up (CC Λ X Y) 204 (.inr (5, [rf Λ 205, rf Λ 206, .int (yz Y), rf Λ 207, .int (yi Y), rf Λ 208, rf Λ 209, .int (yy Y), .int (yo Y), rf Λ 210, rf Λ 211, .int v, .int (ya Y)])) = CC Λ (X) (ymS Y v) := by
  funext r
  by_cases h1 : r < 197
  · rw [va_up_ne _ _ (by omega)]; exact cc_low Λ (X := X) (X' := X) (Y := Y) (Y' := ymS Y v) rfl rfl h1
  by_cases h2 : 212 ≤ r
  · rw [va_up_ne _ _ (by omega), cc_big Λ _ _ h2, cc_big Λ _ _ h2]
  rcases r_cases h1 h2 with rfl | rfl | rfl | rfl | rfl | rfl | rfl | rfl | rfl | rfl | rfl | rfl | rfl | rfl | rfl <;> rfl
theorem cs_ya (Λ : Lk) (X : XS) (Y : YS) (v : Int32) : va_up (CC Λ X Y) 204 (.inr (5, [rf Λ 205, rf Λ 206, .int (yz Y), rf Λ 207, .int (yi Y), rf Λ 208, rf Λ 209, .int (yy Y), .int (yo Y), rf Λ 210, rf Λ 211, .int (ym Y), .int v])) = CC Λ (X) (yaS Y v) := by
  funext r
  by_cases h1 : r < 197
  · rw [va_up_ne _ _ (by omega)]; exact cc_low Λ (X := X) (X' := X) (Y := Y) (Y' := yaS Y v) rfl rfl h1
  by_cases h2 : 212 ≤ r
  · rw [va_up_ne _ _ (by omega), cc_big Λ _ _ h2, cc_big Λ _ _ h2]
  rcases r_cases h1 h2 with rfl | rfl | rfl | rfl | rfl | rfl | rfl | rfl | rfl | rfl | rfl | rfl | rfl | rfl | rfl <;> rfl
theorem cs_yn (Λ : Lk) (X : XS) (Y : YS) (v : Nat → Int32) : va_up (CC Λ X Y) 205 (.inl (Λ.2.2.2.1 1, 451, .inl v)) = CC Λ (X) (ynS Y v) := by
  funext r
  by_cases h1 : r < 197
  · rw [va_up_ne _ _ (by omega)]; exact cc_low Λ (X := X) (X' := X) (Y := Y) (Y' := ynS Y v) rfl rfl h1
  by_cases h2 : 212 ≤ r
  · rw [va_up_ne _ _ (by omega), cc_big Λ _ _ h2, cc_big Λ _ _ h2]
  rcases r_cases h1 h2 with rfl | rfl | rfl | rfl | rfl | rfl | rfl | rfl | rfl | rfl | rfl | rfl | rfl | rfl | rfl <;> rfl
theorem cs_yp (Λ : Lk) (X : XS) (Y : YS) (v : Nat → Int32) : va_up (CC Λ X Y) 206 (.inl (Λ.2.2.2.1 1, 1804, .inl v)) = CC Λ (X) (ypS Y v) := by
  funext r
  by_cases h1 : r < 197
  · rw [va_up_ne _ _ (by omega)]; exact cc_low Λ (X := X) (X' := X) (Y := Y) (Y' := ypS Y v) rfl rfl h1
  by_cases h2 : 212 ≤ r
  · rw [va_up_ne _ _ (by omega), cc_big Λ _ _ h2, cc_big Λ _ _ h2]
  rcases r_cases h1 h2 with rfl | rfl | rfl | rfl | rfl | rfl | rfl | rfl | rfl | rfl | rfl | rfl | rfl | rfl | rfl <;> rfl
theorem cs_yk (Λ : Lk) (X : XS) (Y : YS) (v : Nat → Int32) : va_up (CC Λ X Y) 207 (.inl (Λ.2.2.2.1 1, 451, .inl v)) = CC Λ (X) (ykS Y v) := by
  funext r
  by_cases h1 : r < 197
  · rw [va_up_ne _ _ (by omega)]; exact cc_low Λ (X := X) (X' := X) (Y := Y) (Y' := ykS Y v) rfl rfl h1
  by_cases h2 : 212 ≤ r
  · rw [va_up_ne _ _ (by omega), cc_big Λ _ _ h2, cc_big Λ _ _ h2]
  rcases r_cases h1 h2 with rfl | rfl | rfl | rfl | rfl | rfl | rfl | rfl | rfl | rfl | rfl | rfl | rfl | rfl | rfl <;> rfl
theorem cs_yt (Λ : Lk) (X : XS) (Y : YS) (v : Nat → Int32) : va_up (CC Λ X Y) 208 (.inl (Λ.2.2.2.1 1, 451, .inl v)) = CC Λ (X) (ytS Y v) := by
  funext r
  by_cases h1 : r < 197
  · rw [va_up_ne _ _ (by omega)]; exact cc_low Λ (X := X) (X' := X) (Y := Y) (Y' := ytS Y v) rfl rfl h1
  by_cases h2 : 212 ≤ r
  · rw [va_up_ne _ _ (by omega), cc_big Λ _ _ h2, cc_big Λ _ _ h2]
  rcases r_cases h1 h2 with rfl | rfl | rfl | rfl | rfl | rfl | rfl | rfl | rfl | rfl | rfl | rfl | rfl | rfl | rfl <;> rfl
theorem cs_yx (Λ : Lk) (X : XS) (Y : YS) (v : Nat → Int32) : va_up (CC Λ X Y) 209 (.inl (Λ.2.2.2.1 1, 60, .inl v)) = CC Λ (X) (yxS Y v) := by
  funext r
  by_cases h1 : r < 197
  · rw [va_up_ne _ _ (by omega)]; exact cc_low Λ (X := X) (X' := X) (Y := Y) (Y' := yxS Y v) rfl rfl h1
  by_cases h2 : 212 ≤ r
  · rw [va_up_ne _ _ (by omega), cc_big Λ _ _ h2, cc_big Λ _ _ h2]
  rcases r_cases h1 h2 with rfl | rfl | rfl | rfl | rfl | rfl | rfl | rfl | rfl | rfl | rfl | rfl | rfl | rfl | rfl <;> rfl
theorem cs_yg (Λ : Lk) (X : XS) (Y : YS) (v : Nat → Int32) : va_up (CC Λ X Y) 210 (.inl (Λ.2.2.2.1 1, 64, .inl v)) = CC Λ (X) (ygS Y v) := by
  funext r
  by_cases h1 : r < 197
  · rw [va_up_ne _ _ (by omega)]; exact cc_low Λ (X := X) (X' := X) (Y := Y) (Y' := ygS Y v) rfl rfl h1
  by_cases h2 : 212 ≤ r
  · rw [va_up_ne _ _ (by omega), cc_big Λ _ _ h2, cc_big Λ _ _ h2]
  rcases r_cases h1 h2 with rfl | rfl | rfl | rfl | rfl | rfl | rfl | rfl | rfl | rfl | rfl | rfl | rfl | rfl | rfl <;> rfl
theorem cs_yu (Λ : Lk) (X : XS) (Y : YS) (v : Nat → Int32) : va_up (CC Λ X Y) 211 (.inl (Λ.2.2.2.1 1, 60, .inl v)) = CC Λ (X) (yuS Y v) := by
  funext r
  by_cases h1 : r < 197
  · rw [va_up_ne _ _ (by omega)]; exact cc_low Λ (X := X) (X' := X) (Y := Y) (Y' := yuS Y v) rfl rfl h1
  by_cases h2 : 212 ≤ r
  · rw [va_up_ne _ _ (by omega), cc_big Λ _ _ h2, cc_big Λ _ _ h2]
  rcases r_cases h1 h2 with rfl | rfl | rfl | rfl | rfl | rfl | rfl | rfl | rfl | rfl | rfl | rfl | rfl | rfl | rfl <;> rfl
end
section
/-! ===== Int32 by its bits: bt x i ===== -/
def bt (x : Int32) (i : Nat) : Bool := x.toBitVec.getLsbD i
theorem b_ext {x y : Int32} (h : ∀ i, i < 32 → bt x i = bt y i) : x = y := Int32.toBitVec_inj.mp (BitVec.eq_of_getLsbD_eq (fun i hi => h i hi))
theorem b_or (x y : Int32) (i : Nat) : bt (x ||| y) i = (bt x i || bt y i) := by unfold bt; rw [Int32.toBitVec_or, BitVec.getLsbD_or]
theorem b_and (x y : Int32) (i : Nat) : bt (x &&& y) i = (bt x i && bt y i) := by unfold bt; rw [Int32.toBitVec_and, BitVec.getLsbD_and]
theorem b_xor (x y : Int32) (i : Nat) : bt (x ^^^ y) i = (bt x i ^^ bt y i) := by unfold bt; rw [Int32.toBitVec_xor, BitVec.getLsbD_xor]
theorem b_big {x : Int32} {i : Nat} (h : 32 ≤ i) : bt x i = false := BitVec.getLsbD_of_ge _ _ h
theorem b_255 (i : Nat) : bt 255 i = decide (i < 8) := by
  rcases Nat.lt_or_ge i 32 with h | h
  · exact (by decide +kernel : ∀ i, i < 32 → bt 255 i = decide (i < 8)) i h
  · rw [b_big h, decide_eq_false (by omega)]
theorem b_65535 (i : Nat) : bt 65535 i = decide (i < 16) := by
  rcases Nat.lt_or_ge i 32 with h | h
  · exact (by decide +kernel : ∀ i, i < 32 → bt 65535 i = decide (i < 16)) i h
  · rw [b_big h, decide_eq_false (by omega)]
theorem b_m1 : ∀ i, i < 32 → bt (-1) i = true := by decide +kernel
theorem b_0 (i : Nat) : bt 0 i = false := BitVec.getLsbD_zero
theorem s_l : ∀ n, n < 32 → ((nI n &&& 31).toBitVec.smod 32).toNat = n := by decide +kernel
theorem s_u : ∀ n, n < 32 → (((nI n).toUInt32 &&& Int32.toUInt32 31).toBitVec % 32).toNat = n := by decide +kernel
theorem b_shl (n : Nat) (hn : n < 32) (x : Int32) {i : Nat} (hi : i < 32) : bt (x <<< (nI n &&& 31)) i = (decide (n ≤ i) && bt x (i - n)) := by
  unfold bt
  rw [Int32.toBitVec_shiftLeft]
  show (x.toBitVec <<< ((nI n &&& 31).toBitVec.smod 32).toNat).getLsbD i = _
  rw [s_l n hn, BitVec.getLsbD_shiftLeft]
  rcases Nat.lt_or_ge i n with h | h
  · simp [h, Nat.not_le.mpr h]
  · simp [hi, h, Nat.not_lt.mpr h]
theorem b_ushr (n : Nat) (hn : n < 32) (x : Int32) (i : Nat) : bt ((x.toUInt32 >>> ((nI n).toUInt32 &&& Int32.toUInt32 31)).toInt32) i = bt x (n + i) := by
  show (x.toUInt32 >>> ((nI n).toUInt32 &&& Int32.toUInt32 31)).toBitVec.getLsbD i = x.toUInt32.toBitVec.getLsbD (n + i)
  rw [UInt32.toBitVec_shiftRight]
  show (x.toUInt32.toBitVec >>> (((nI n).toUInt32 &&& Int32.toUInt32 31).toBitVec % 32).toNat).getLsbD i = _
  rw [s_u n hn, BitVec.getLsbD_ushiftRight]
theorem b_sshr (n : Nat) (hn : n < 32) (x : Int32) {i : Nat} (hi : i < 32) : bt (x >>> (nI n &&& 31)) i = if n + i < 32 then bt x (n + i) else bt x 31 := by
  unfold bt
  rw [Int32.toBitVec_shiftRight]
  show (x.toBitVec.sshiftRight ((nI n &&& 31).toBitVec.smod 32).toNat).getLsbD i = _
  rw [s_l n hn, BitVec.getLsbD_sshiftRight, BitVec.msb_eq_getLsbD_last]
  simp [hi]
theorem b_shl8 (x : Int32) {i : Nat} (hi : i < 32) : bt (x <<< ((8 : Int32) &&& 31)) i = (decide (8 ≤ i) && bt x (i - 8)) := b_shl 8 (by omega) x hi
theorem b_shl16 (x : Int32) {i : Nat} (hi : i < 32) : bt (x <<< ((16 : Int32) &&& 31)) i = (decide (16 ≤ i) && bt x (i - 16)) := b_shl 16 (by omega) x hi
theorem b_shl24 (x : Int32) {i : Nat} (hi : i < 32) : bt (x <<< ((24 : Int32) &&& 31)) i = (decide (24 ≤ i) && bt x (i - 24)) := b_shl 24 (by omega) x hi
theorem b_sshr8 (x : Int32) {i : Nat} (hi : i < 32) : bt (x >>> ((8 : Int32) &&& 31)) i = if 8 + i < 32 then bt x (8 + i) else bt x 31 := b_sshr 8 (by omega) x hi
theorem ts_bit {w : Int64} {s : UInt64} {j : Nat} (hj : j < 64) (hs : s.toNat = j) : ((w.toUInt64 >>> s).toInt64 &&& 1) = 0 ↔ w.toBitVec.getLsbD j = false := by
  have e : (w.toUInt64 >>> s).toInt64.toBitVec = w.toBitVec >>> j := by
    apply BitVec.eq_of_toNat_eq
    show (w.toUInt64 >>> s).toNat = _
    rw [UInt64.toNat_shiftRight, hs, Nat.mod_eq_of_lt hj, BitVec.toNat_ushiftRight]
    rfl
  rw [← Int64.toBitVec_inj, Int64.toBitVec_and, e]
  show w.toBitVec >>> j &&& 1#64 = 0#64 ↔ _
  constructor
  · intro h
    have t := congrArg (fun x => x.getLsbD 0) h
    simpa using t
  · intro h
    apply BitVec.eq_of_getLsbD_eq
    intro i hi
    cases i with
    | zero => simp [h]
    | succ i => simp
theorem wb_tb (n : Nat) : (lN n).toBitVec = BitVec.ofNat 64 n := rfl
theorem wb_inj {a b : Int64} (h : a.toBitVec = b.toBitVec) : a = b := Int64.toBitVec_inj.mp h
theorem wb_c : ∀ k, k < 64 → ((nI k).toInt64 &&& 63) = lN k := by decide +kernel
theorem wb_cu : ∀ k, k < 64 → ((nI k).toInt64.toUInt64 &&& Int64.toUInt64 63) = UInt64.ofNat k := by decide +kernel
theorem wb_sm : ∀ k, k < 64 → (BitVec.ofNat 64 k).smod 64 = BitVec.ofNat 64 k := by decide +kernel
/-! ===== mine: one bit of an int, of a long ===== -/
theorem b_1 (i : Nat) : bt 1 i = decide (i = 0) := by
  rcases Nat.lt_or_ge i 32 with h | h
  · exact (by decide +kernel : ∀ i, i < 32 → bt 1 i = decide (i = 0)) i h
  · rw [b_big h, decide_eq_false (by omega)]
theorem bt_bI (b : Bool) (i : Nat) : bt (bI b) i = (b && decide (i = 0)) := by
  cases b
  · exact b_0 i
  · rw [Bool.true_and]; exact b_1 i
theorem and1 (y : Int32) : y &&& 1 = bI (bt y 0) := by
  apply b_ext
  intro i hi
  rw [b_and, b_1, bt_bI]
  by_cases h : i = 0
  · subst h; rfl
  · simp [h]
theorem bit32 (x : Int32) {k : Nat} (hk : k < 32) : (x >>> (nI k &&& 31)) &&& 1 = bI (bt x k) := by
  rw [and1, b_sshr k hk x (by decide)]
  simp [hk]
/-- the int whose only bit is k -/
theorem bt_one (k : Nat) (hk : k < 32) {i : Nat} (hi : i < 32) : bt ((1 : Int32) <<< (nI k &&& 31)) i = decide (i = k) := by
  rw [b_shl k hk 1 hi, b_1]
  by_cases h : i = k
  · subst h; simp
  · by_cases h2 : k ≤ i
    · simp [h]; omega
    · simp [h2, h]
def bl (x : Int64) (i : Nat) : Bool := x.toBitVec.getLsbD i
theorem l_ext {x y : Int64} (h : ∀ i, i < 64 → bl x i = bl y i) : x = y := Int64.toBitVec_inj.mp (BitVec.eq_of_getLsbD_eq (fun i hi => h i hi))
theorem l_or (x y : Int64) (i : Nat) : bl (x ||| y) i = (bl x i || bl y i) := by unfold bl; rw [Int64.toBitVec_or, BitVec.getLsbD_or]
theorem l_and (x y : Int64) (i : Nat) : bl (x &&& y) i = (bl x i && bl y i) := by unfold bl; rw [Int64.toBitVec_and, BitVec.getLsbD_and]
theorem l_xor (x y : Int64) (i : Nat) : bl (x ^^^ y) i = (bl x i ^^ bl y i) := by unfold bl; rw [Int64.toBitVec_xor, BitVec.getLsbD_xor]
theorem l_big {x : Int64} {i : Nat} (h : 64 ≤ i) : bl x i = false := BitVec.getLsbD_of_ge _ _ h
theorem l_0 (i : Nat) : bl 0 i = false := BitVec.getLsbD_zero
theorem l_m1 : ∀ i, i < 64 → bl (-1) i = true := by decide +kernel
theorem bit64 (w : Int64) {k : Nat} (hk : k < 64) : (lg_cmp ((w.toUInt64 >>> ((nI k).toInt64.toUInt64 &&& Int64.toUInt64 63)).toInt64 &&& 1) 0) = bI (bl w k) := by
  rw [wb_cu k hk]
  have hs : (UInt64.ofNat k).toNat = k := by
    show (BitVec.ofNat 64 k).toNat = k
    rw [BitVec.toNat_ofNat, Nat.mod_eq_of_lt (by omega)]
  have h := ts_bit (w := w) hk hs
  have h2 : ∀ z : Int64, z &&& 1 = 0 ∨ z &&& 1 = 1 := by
    intro z
    by_cases hz : bl z 0 = true
    · right
      apply l_ext
      intro i hi
      rw [l_and]
      by_cases h0 : i = 0
      · subst h0; rw [hz]; rfl
      · have : bl 1 i = false := (by decide +kernel : ∀ i, i < 64 → i ≠ 0 → bl 1 i = false) i hi h0
        rw [this, Bool.and_false]
    · left
      apply l_ext
      intro i hi
      rw [l_and, l_0]
      by_cases h0 : i = 0
      · subst h0; simp [hz]
      · have : bl 1 i = false := (by decide +kernel : ∀ i, i < 64 → i ≠ 0 → bl 1 i = false) i hi h0
        rw [this, Bool.and_false]
  generalize (w.toUInt64 >>> UInt64.ofNat k).toInt64 = z at h ⊢
  show lg_cmp (z &&& 1) 0 = bI (w.toBitVec.getLsbD k)
  rcases h2 z with e | e
  · rw [h.mp e, e]; decide
  · have : w.toBitVec.getLsbD k = true := by
      cases hb : w.toBitVec.getLsbD k with
      | true => rfl
      | false => exact absurd (h.mpr hb) (by rw [e]; decide)
    rw [this, e]; decide
theorem bl_one (k : Nat) (hk : k < 64) {i : Nat} (hi : i < 64) : bl ((1 : Int64) <<< ((nI k).toInt64 &&& 63)) i = decide (i = k) := by
  unfold bl
  rw [wb_c k hk, Int64.toBitVec_shiftLeft, wb_tb, wb_sm k hk, BitVec.shiftLeft_eq', BitVec.getLsbD_shiftLeft, BitVec.toNat_ofNat, Nat.mod_eq_of_lt (by omega)]
  have h1 : (1 : Int64).toBitVec.getLsbD (i - k) = decide (i - k = 0) := by
    have := (by decide +kernel : ∀ j, j < 64 → (1 : Int64).toBitVec.getLsbD j = decide (j = 0)) (i - k) (by omega)
    exact this
  rw [h1]
  by_cases h : i = k
  · subst h; simp [hi]
  · by_cases h2 : i < k
    · simp [h2, h]
    · simp [hi, h2, h]; omega
end
section
/-! What the methods answer, in plain functions: over a fleet as it lies (FR), and over the reference's row 'now' -/
def cnt (b : Nat → Bool) (a : Nat) : Nat → Nat
  | 0 => 0
  | n + 1 => cnt b a n + if b (a + n) then 1 else 0
theorem cnt_le (b : Nat → Bool) (a : Nat) : ∀ n, cnt b a n ≤ n
  | 0 => Nat.le_refl _
  | n + 1 => by have := cnt_le b a n; simp only [cnt]; split <;> omega
theorem cnt_T {b : Nat → Bool} {a n : Nat} (h : b (a + n) = true) : cnt b a (n + 1) = cnt b a n + 1 := by simp [cnt, h]
theorem cnt_F {b : Nat → Bool} {a n : Nat} (h : b (a + n) = false) : cnt b a (n + 1) = cnt b a n := by simp [cnt, h]
def sumI (f : Nat → Int32) : Nat → Int32
  | 0 => 0
  | n + 1 => sumI f n + f n
-- the reference
def ofN (now : Nat → Int32) (s w : Nat) : Int32 := now (1 + 75 * s + w)
def layN (now : Nat → Int32) (s w : Nat) (v : Int32) : Nat → Int32 := upd now (1 + 75 * s + w) v
def mb (now : Nat → Int32) (s n : Nat) : Bool := bt (ofN now s (11 + n / 32)) (n % 32)
def kindN (now : Nat → Int32) (s bay : Nat) : Int32 := ofN now s (3 + bay) - 1
def manyN (now : Nat → Int32) (s bay : Nat) : Nat := cnt (mb now s) (256 * bay) 256
def runB (b : Nat → Bool) (n : Nat) : Bool := b n && (decide (n % 256 = 0) || !b (n - 1))
def runsN (now : Nat → Int32) (s bay : Nat) : Nat := cnt (runB (mb now s)) (256 * bay) 256
def holdsI (kind many runs : Int32) : Bool := if kind = 0 then decide (many ≤ 24) else (decide (kind = 1) || decide (runs ≤ 8))
def unitsI (kind many runs : Int32) : Int32 := if kind = 0 then 2 * many else if kind = 1 then 32 else 3 * runs
def bestI (many runs : Int32) : Int32 :=
  let b : Int32 := if holdsI 2 many runs = true ∧ unitsI 2 many runs < unitsI 1 many runs then 2 else 1
  if holdsI 0 many runs = true ∧ unitsI 0 many runs ≤ unitsI b many runs then 0 else b
def bestN (now : Nat → Int32) (s bay : Nat) : Int32 := bestI (nI (manyN now s bay)) (nI (runsN now s bay))
def unitsN (now : Nat → Int32) (s bay : Nat) : Int32 := unitsI (kindN now s bay) (nI (manyN now s bay)) (nI (runsN now s bay))
def tollN (now : Nat → Int32) (s bay : Nat) : Int32 := if bestN now s bay = kindN now s bay then 0 else unitsI (bestN now s bay) (nI (manyN now s bay)) (nI (runsN now s bay))
theorem isIn_bit {now : Nat → Int32} {s n : Nat} (hn : n < 2048) : (ofN now s (11 + (n / 32))) >>> (nI (n % 32) &&& 31) &&& 1 = bI (mb now s n) := bit32 _ (Nat.mod_lt _ (by decide))
end
section
theorem zz_last : True := trivial
end
