section
-- ===== PART A: goes FIRST, ahead of the names: the tables' words, and 'selects' of the private methods out of them =====
/-- a private method of a class that the tables say can be made, by its rows of tables_1 -/
def lw_okq (q : MethodName × Nat) : Prop := (q.1.cls ≠ "java/lang/invoke/MethodHandle" ∧ q.1.cls ≠ "java/lang/invoke/VarHandle") ∧ Cond.instantiable q.1.cls q.2 ∈ tables_1 ∧ Cond.privateMethod q.1 ∈ tables_1 ∧ Cond.instanceMethod q.1 ∈ tables_1
theorem lw_p0 : lw_okq (⟨"BoatSets", "isSet", "(I)Z"⟩, 6) := ⟨⟨by decide +kernel, by decide +kernel⟩, List.mem_of_getElem? (i := 12) (by decide +kernel), List.mem_of_getElem? (i := 187) (by decide +kernel), List.mem_of_getElem? (i := 188) (by decide +kernel)⟩
theorem lw_p1 : lw_okq (⟨"BoatSets", "moveRange", "(IIIZ)I"⟩, 6) := ⟨⟨by decide +kernel, by decide +kernel⟩, List.mem_of_getElem? (i := 12) (by decide +kernel), List.mem_of_getElem? (i := 235) (by decide +kernel), List.mem_of_getElem? (i := 236) (by decide +kernel)⟩
theorem lw_p2 : lw_okq (⟨"BoatSets", "settleTrial", "(II)I"⟩, 6) := ⟨⟨by decide +kernel, by decide +kernel⟩, List.mem_of_getElem? (i := 12) (by decide +kernel), List.mem_of_getElem? (i := 270) (by decide +kernel), List.mem_of_getElem? (i := 271) (by decide +kernel)⟩
theorem lw_p3 : lw_okq (⟨"BoatSetsModel", "records", "([I)V"⟩, 13) := ⟨⟨by decide +kernel, by decide +kernel⟩, List.mem_of_getElem? (i := 492) (by decide +kernel), List.mem_of_getElem? (i := 545) (by decide +kernel), List.mem_of_getElem? (i := 546) (by decide +kernel)⟩
theorem lw_p4 : lw_okq (⟨"BoatSetsModel", "lays", "(III)V"⟩, 13) := ⟨⟨by decide +kernel, by decide +kernel⟩, List.mem_of_getElem? (i := 492) (by decide +kernel), List.mem_of_getElem? (i := 552) (by decide +kernel), List.mem_of_getElem? (i := 553) (by decide +kernel)⟩
theorem lw_p5 : lw_okq (⟨"BoatSetsModel", "isSet", "(I)Z"⟩, 13) := ⟨⟨by decide +kernel, by decide +kernel⟩, List.mem_of_getElem? (i := 492) (by decide +kernel), List.mem_of_getElem? (i := 560) (by decide +kernel), List.mem_of_getElem? (i := 561) (by decide +kernel)⟩
theorem lw_p6 : lw_okq (⟨"BoatSetsModel", "of", "(II)I"⟩, 13) := ⟨⟨by decide +kernel, by decide +kernel⟩, List.mem_of_getElem? (i := 492) (by decide +kernel), List.mem_of_getElem? (i := 564) (by decide +kernel), List.mem_of_getElem? (i := 565) (by decide +kernel)⟩
theorem lw_p7 : lw_okq (⟨"BoatSetsModel", "boatsOf", "(I)I"⟩, 13) := ⟨⟨by decide +kernel, by decide +kernel⟩, List.mem_of_getElem? (i := 492) (by decide +kernel), List.mem_of_getElem? (i := 572) (by decide +kernel), List.mem_of_getElem? (i := 573) (by decide +kernel)⟩
theorem lw_p8 : lw_okq (⟨"BoatSetsModel", "kindOf", "(II)I"⟩, 13) := ⟨⟨by decide +kernel, by decide +kernel⟩, List.mem_of_getElem? (i := 492) (by decide +kernel), List.mem_of_getElem? (i := 576) (by decide +kernel), List.mem_of_getElem? (i := 577) (by decide +kernel)⟩
theorem lw_p9 : lw_okq (⟨"BoatSetsModel", "docks", "(I)I"⟩, 13) := ⟨⟨by decide +kernel, by decide +kernel⟩, List.mem_of_getElem? (i := 492) (by decide +kernel), List.mem_of_getElem? (i := 584) (by decide +kernel), List.mem_of_getElem? (i := 585) (by decide +kernel)⟩
theorem lw_p10 : lw_okq (⟨"BoatSetsModel", "nextToDock", "(I)I"⟩, 13) := ⟨⟨by decide +kernel, by decide +kernel⟩, List.mem_of_getElem? (i := 492) (by decide +kernel), List.mem_of_getElem? (i := 588) (by decide +kernel), List.mem_of_getElem? (i := 589) (by decide +kernel)⟩
theorem lw_p11 : lw_okq (⟨"BoatSetsModel", "tollOf", "(II)I"⟩, 13) := ⟨⟨by decide +kernel, by decide +kernel⟩, List.mem_of_getElem? (i := 492) (by decide +kernel), List.mem_of_getElem? (i := 592) (by decide +kernel), List.mem_of_getElem? (i := 593) (by decide +kernel)⟩
theorem lw_p12 : lw_okq (⟨"BoatSetsModel", "bestOf", "(II)I"⟩, 13) := ⟨⟨by decide +kernel, by decide +kernel⟩, List.mem_of_getElem? (i := 492) (by decide +kernel), List.mem_of_getElem? (i := 596) (by decide +kernel), List.mem_of_getElem? (i := 597) (by decide +kernel)⟩
theorem lw_p13 : lw_okq (⟨"BoatSetsModel", "manyIn", "(II)I"⟩, 13) := ⟨⟨by decide +kernel, by decide +kernel⟩, List.mem_of_getElem? (i := 492) (by decide +kernel), List.mem_of_getElem? (i := 600) (by decide +kernel), List.mem_of_getElem? (i := 601) (by decide +kernel)⟩
theorem lw_p14 : lw_okq (⟨"BoatSetsModel", "isIn", "(II)Z"⟩, 13) := ⟨⟨by decide +kernel, by decide +kernel⟩, List.mem_of_getElem? (i := 492) (by decide +kernel), List.mem_of_getElem? (i := 604) (by decide +kernel), List.mem_of_getElem? (i := 605) (by decide +kernel)⟩
theorem lw_p15 : lw_okq (⟨"BoatSetsModel", "runsIn", "(II)I"⟩, 13) := ⟨⟨by decide +kernel, by decide +kernel⟩, List.mem_of_getElem? (i := 492) (by decide +kernel), List.mem_of_getElem? (i := 608) (by decide +kernel), List.mem_of_getElem? (i := 609) (by decide +kernel)⟩
def lw_privs_1 : List (MethodName × Nat) := [(⟨"BoatSets", "isSet", "(I)Z"⟩, 6), (⟨"BoatSets", "moveRange", "(IIIZ)I"⟩, 6), (⟨"BoatSets", "settleTrial", "(II)I"⟩, 6), (⟨"BoatSetsModel", "records", "([I)V"⟩, 13), (⟨"BoatSetsModel", "lays", "(III)V"⟩, 13), (⟨"BoatSetsModel", "isSet", "(I)Z"⟩, 13), (⟨"BoatSetsModel", "of", "(II)I"⟩, 13), (⟨"BoatSetsModel", "boatsOf", "(I)I"⟩, 13), (⟨"BoatSetsModel", "kindOf", "(II)I"⟩, 13), (⟨"BoatSetsModel", "docks", "(I)I"⟩, 13), (⟨"BoatSetsModel", "nextToDock", "(I)I"⟩, 13), (⟨"BoatSetsModel", "tollOf", "(II)I"⟩, 13), (⟨"BoatSetsModel", "bestOf", "(II)I"⟩, 13), (⟨"BoatSetsModel", "manyIn", "(II)I"⟩, 13), (⟨"BoatSetsModel", "isIn", "(II)Z"⟩, 13), (⟨"BoatSetsModel", "runsIn", "(II)I"⟩, 13)]
theorem lw_r1 : ∀ q ∈ lw_privs_1, lw_okq q := List.forall_mem_cons.mpr ⟨lw_p0, List.forall_mem_cons.mpr ⟨lw_p1, List.forall_mem_cons.mpr ⟨lw_p2, List.forall_mem_cons.mpr ⟨lw_p3, List.forall_mem_cons.mpr ⟨lw_p4, List.forall_mem_cons.mpr ⟨lw_p5, List.forall_mem_cons.mpr ⟨lw_p6, List.forall_mem_cons.mpr ⟨lw_p7, List.forall_mem_cons.mpr ⟨lw_p8, List.forall_mem_cons.mpr ⟨lw_p9, List.forall_mem_cons.mpr ⟨lw_p10, List.forall_mem_cons.mpr ⟨lw_p11, List.forall_mem_cons.mpr ⟨lw_p12, List.forall_mem_cons.mpr ⟨lw_p13, List.forall_mem_cons.mpr ⟨lw_p14, List.forall_mem_cons.mpr ⟨lw_p15, fun _ h => absurd h List.not_mem_nil⟩⟩⟩⟩⟩⟩⟩⟩⟩⟩⟩⟩⟩⟩⟩⟩
theorem lw_p16 : lw_okq (⟨"BoatSetsModel", "unitsOf", "(II)I"⟩, 13) := ⟨⟨by decide +kernel, by decide +kernel⟩, List.mem_of_getElem? (i := 492) (by decide +kernel), List.mem_of_getElem? (i := 621) (by decide +kernel), List.mem_of_getElem? (i := 622) (by decide +kernel)⟩
theorem lw_p17 : lw_okq (⟨"BoatSetsModel", "becomes", "(II)V"⟩, 13) := ⟨⟨by decide +kernel, by decide +kernel⟩, List.mem_of_getElem? (i := 492) (by decide +kernel), List.mem_of_getElem? (i := 625) (by decide +kernel), List.mem_of_getElem? (i := 626) (by decide +kernel)⟩
theorem lw_p18 : lw_okq (⟨"BoatSetsModel", "goes", "(IIZ)Z"⟩, 13) := ⟨⟨by decide +kernel, by decide +kernel⟩, List.mem_of_getElem? (i := 492) (by decide +kernel), List.mem_of_getElem? (i := 636) (by decide +kernel), List.mem_of_getElem? (i := 637) (by decide +kernel)⟩
theorem lw_p19 : lw_okq (⟨"BoatSetsModel", "puts", "(IIZ)V"⟩, 13) := ⟨⟨by decide +kernel, by decide +kernel⟩, List.mem_of_getElem? (i := 492) (by decide +kernel), List.mem_of_getElem? (i := 640) (by decide +kernel), List.mem_of_getElem? (i := 641) (by decide +kernel)⟩
theorem lw_p20 : lw_okq (⟨"BoatSetsModel", "ranges", "(IIIZ)I"⟩, 13) := ⟨⟨by decide +kernel, by decide +kernel⟩, List.mem_of_getElem? (i := 492) (by decide +kernel), List.mem_of_getElem? (i := 652) (by decide +kernel), List.mem_of_getElem? (i := 653) (by decide +kernel)⟩
theorem lw_p21 : lw_okq (⟨"BoatSetsModel", "goesAll", "(IIIZ)I"⟩, 13) := ⟨⟨by decide +kernel, by decide +kernel⟩, List.mem_of_getElem? (i := 492) (by decide +kernel), List.mem_of_getElem? (i := 656) (by decide +kernel), List.mem_of_getElem? (i := 657) (by decide +kernel)⟩
theorem lw_p22 : lw_okq (⟨"BoatSetsModel", "ends", "(I)I"⟩, 13) := ⟨⟨by decide +kernel, by decide +kernel⟩, List.mem_of_getElem? (i := 492) (by decide +kernel), List.mem_of_getElem? (i := 660) (by decide +kernel), List.mem_of_getElem? (i := 661) (by decide +kernel)⟩
theorem lw_p23 : lw_okq (⟨"BoatSetsModel", "laysGiven", "(III)I"⟩, 13) := ⟨⟨by decide +kernel, by decide +kernel⟩, List.mem_of_getElem? (i := 492) (by decide +kernel), List.mem_of_getElem? (i := 672) (by decide +kernel), List.mem_of_getElem? (i := 673) (by decide +kernel)⟩
theorem lw_p24 : lw_okq (⟨"BoatSetsModel", "faultOf", "()I"⟩, 13) := ⟨⟨by decide +kernel, by decide +kernel⟩, List.mem_of_getElem? (i := 492) (by decide +kernel), List.mem_of_getElem? (i := 691) (by decide +kernel), List.mem_of_getElem? (i := 692) (by decide +kernel)⟩
theorem lw_p25 : lw_okq (⟨"BoatSetsModel", "readsNumber", "()I"⟩, 13) := ⟨⟨by decide +kernel, by decide +kernel⟩, List.mem_of_getElem? (i := 492) (by decide +kernel), List.mem_of_getElem? (i := 695) (by decide +kernel), List.mem_of_getElem? (i := 696) (by decide +kernel)⟩
theorem lw_p26 : lw_okq (⟨"BoatSetsModel", "signAt", "(I)I"⟩, 13) := ⟨⟨by decide +kernel, by decide +kernel⟩, List.mem_of_getElem? (i := 492) (by decide +kernel), List.mem_of_getElem? (i := 699) (by decide +kernel), List.mem_of_getElem? (i := 700) (by decide +kernel)⟩
theorem lw_p27 : lw_okq (⟨"BoatSetsModel", "rankOf", "(II)I"⟩, 13) := ⟨⟨by decide +kernel, by decide +kernel⟩, List.mem_of_getElem? (i := 492) (by decide +kernel), List.mem_of_getElem? (i := 723) (by decide +kernel), List.mem_of_getElem? (i := 724) (by decide +kernel)⟩
theorem lw_p28 : lw_okq (⟨"BoatSetsModel", "sumOf", "(II)I"⟩, 13) := ⟨⟨by decide +kernel, by decide +kernel⟩, List.mem_of_getElem? (i := 492) (by decide +kernel), List.mem_of_getElem? (i := 727) (by decide +kernel), List.mem_of_getElem? (i := 728) (by decide +kernel)⟩
theorem lw_p29 : lw_okq (⟨"BoatSetsModel", "firstFrom", "(III)I"⟩, 13) := ⟨⟨by decide +kernel, by decide +kernel⟩, List.mem_of_getElem? (i := 492) (by decide +kernel), List.mem_of_getElem? (i := 731) (by decide +kernel), List.mem_of_getElem? (i := 732) (by decide +kernel)⟩
theorem lw_p30 : lw_okq (⟨"BoatSetsModel", "setsWith", "(I)I"⟩, 13) := ⟨⟨by decide +kernel, by decide +kernel⟩, List.mem_of_getElem? (i := 492) (by decide +kernel), List.mem_of_getElem? (i := 767) (by decide +kernel), List.mem_of_getElem? (i := 768) (by decide +kernel)⟩
theorem lw_p31 : lw_okq (⟨"BoatSetsModel", "overAll", "(I)I"⟩, 13) := ⟨⟨by decide +kernel, by decide +kernel⟩, List.mem_of_getElem? (i := 492) (by decide +kernel), List.mem_of_getElem? (i := 783) (by decide +kernel), List.mem_of_getElem? (i := 784) (by decide +kernel)⟩
def lw_privs_2 : List (MethodName × Nat) := [(⟨"BoatSetsModel", "unitsOf", "(II)I"⟩, 13), (⟨"BoatSetsModel", "becomes", "(II)V"⟩, 13), (⟨"BoatSetsModel", "goes", "(IIZ)Z"⟩, 13), (⟨"BoatSetsModel", "puts", "(IIZ)V"⟩, 13), (⟨"BoatSetsModel", "ranges", "(IIIZ)I"⟩, 13), (⟨"BoatSetsModel", "goesAll", "(IIIZ)I"⟩, 13), (⟨"BoatSetsModel", "ends", "(I)I"⟩, 13), (⟨"BoatSetsModel", "laysGiven", "(III)I"⟩, 13), (⟨"BoatSetsModel", "faultOf", "()I"⟩, 13), (⟨"BoatSetsModel", "readsNumber", "()I"⟩, 13), (⟨"BoatSetsModel", "signAt", "(I)I"⟩, 13), (⟨"BoatSetsModel", "rankOf", "(II)I"⟩, 13), (⟨"BoatSetsModel", "sumOf", "(II)I"⟩, 13), (⟨"BoatSetsModel", "firstFrom", "(III)I"⟩, 13), (⟨"BoatSetsModel", "setsWith", "(I)I"⟩, 13), (⟨"BoatSetsModel", "overAll", "(I)I"⟩, 13)]
theorem lw_r2 : ∀ q ∈ lw_privs_2, lw_okq q := List.forall_mem_cons.mpr ⟨lw_p16, List.forall_mem_cons.mpr ⟨lw_p17, List.forall_mem_cons.mpr ⟨lw_p18, List.forall_mem_cons.mpr ⟨lw_p19, List.forall_mem_cons.mpr ⟨lw_p20, List.forall_mem_cons.mpr ⟨lw_p21, List.forall_mem_cons.mpr ⟨lw_p22, List.forall_mem_cons.mpr ⟨lw_p23, List.forall_mem_cons.mpr ⟨lw_p24, List.forall_mem_cons.mpr ⟨lw_p25, List.forall_mem_cons.mpr ⟨lw_p26, List.forall_mem_cons.mpr ⟨lw_p27, List.forall_mem_cons.mpr ⟨lw_p28, List.forall_mem_cons.mpr ⟨lw_p29, List.forall_mem_cons.mpr ⟨lw_p30, List.forall_mem_cons.mpr ⟨lw_p31, fun _ h => absurd h List.not_mem_nil⟩⟩⟩⟩⟩⟩⟩⟩⟩⟩⟩⟩⟩⟩⟩⟩
theorem lw_p32 : lw_okq (⟨"BoatSetsModel", "different", "()I"⟩, 13) := ⟨⟨by decide +kernel, by decide +kernel⟩, List.mem_of_getElem? (i := 492) (by decide +kernel), List.mem_of_getElem? (i := 788) (by decide +kernel), List.mem_of_getElem? (i := 789) (by decide +kernel)⟩
def lw_privs_3 : List (MethodName × Nat) := [(⟨"BoatSetsModel", "different", "()I"⟩, 13)]
theorem lw_r3 : ∀ q ∈ lw_privs_3, lw_okq q := List.forall_mem_cons.mpr ⟨lw_p32, fun _ h => absurd h List.not_mem_nil⟩
def lw_privs : List (MethodName × Nat) := lw_privs_1 ++ (lw_privs_2 ++ (lw_privs_3))
def lw_tbl : List Cond := k2_sels lw_privs ++ tables_1
theorem lw_privs_ok : ∀ q ∈ lw_privs, lw_okq q := by
  show ∀ q ∈ lw_privs_1 ++ (lw_privs_2 ++ (lw_privs_3)), lw_okq q
  exact List.forall_mem_append.mpr ⟨lw_r1, List.forall_mem_append.mpr ⟨lw_r2, lw_r3⟩⟩
-- ===== end of PART A; then your names; then what follows =====
end
section
/-! ===== BEGIN words of one list among another's, by their places ===== -/
theorem goodIn_r {big : List Cond} (ws : List Cond) (ps : List Nat) (hp : ws = ps.filterMap (fun i => big[i]?)) (h : ws.all goodWord = true) : GoodIn big ws := by
  intro w hw
  have h1 := List.all_eq_true.mp h w hw
  rw [hp] at hw
  obtain ⟨i, -, hi⟩ := List.mem_filterMap.mp hw
  have hm : w ∈ big := by first | exact List.mem_of_getElem? hi | exact List.getElem?_mem hi
  exact ⟨hm, good_of_word h1⟩
theorem goodIn_app {big a b : List Cond} (ha : GoodIn big a) (hb : GoodIn big b) : GoodIn big (a ++ b) := fun w h => (List.mem_append.mp h).elim (ha w) (hb w)
theorem goodIn_ca {big a b : List Cond} {c : Cond} (ha : GoodIn big (c :: a)) (hb : GoodIn big b) : GoodIn big (c :: (a ++ b)) := fun w h => (List.mem_cons.mp h).elim (fun e => ha w (List.mem_cons.mpr (Or.inl e))) (fun h => (List.mem_append.mp h).elim (fun h => ha w (List.mem_cons.mpr (Or.inr h))) (hb w))
theorem goodIn_sub {big ws : List Cond} (hm : ∀ w ∈ ws, w ∈ big) (h : ws.all goodWord = true) : GoodIn big ws := fun w hw => ⟨hm w hw, good_of_word (List.all_eq_true.mp h w hw)⟩
/-! ===== END ===== -/

/-! ===== BEGIN printed: names, fields, word lists, decode rows ===== -/
def RX0 : String := "BoatSets$Fleet"
def TX0 : u_T := fun k => match k with
  | 0 => ("BoatSets$Fleet", "words", "[J", true)
  | 1 => ("BoatSets$Fleet", "kinds", "[I", true)
  | 2 => ("BoatSets$Fleet", "sizes", "[I", true)
  | 3 => ("BoatSets$Fleet", "runs", "[I", true)
  | 4 => ("BoatSets$Fleet", "purse", "I", false)
  | 5 => ("BoatSets$Fleet", "paid", "I", false)
  | _ => ("BoatSets$Fleet", "atSea", "Z", false)
def tyX0 : Nat → FieldType := fun k => match k with
  | 0 => .array .long
  | 1 => .array .int
  | 2 => .array .int
  | 3 => .array .int
  | 4 => .int
  | 5 => .int
  | _ => .boolean
abbrev wsX00 : List Cond := u_ws RX0 TX0 7
theorem nmX0 : ∀ a, a < 7 → ∀ b, b < 7 → a ≠ b → (TX0 a).2.1 ≠ (TX0 b).2.1 := by decide +kernel
theorem tyX0_ok : ∀ k, k < 7 → parseFieldDescriptor (TX0 k).2.2.1 = some (tyX0 k) := by decide +kernel
abbrev cX0_init : ByteArray := prog_2_method_1_code
def yX0_init : MethodName := ⟨RX0, "<init>", "()V"⟩
abbrev cX0_begin : ByteArray := prog_2_method_2_code
def yX0_begin : MethodName := ⟨RX0, "begin", "(I)V"⟩
abbrev cX0_clearNumbers : ByteArray := prog_2_method_3_code
def yX0_clearNumbers : MethodName := ⟨RX0, "clearNumbers", "()V"⟩
abbrev cX0_copyFrom : ByteArray := prog_2_method_4_code
def yX0_copyFrom : MethodName := ⟨RX0, "copyFrom", "(LBoatSets$Fleet;)V"⟩
abbrev cX0_holds : ByteArray := prog_2_method_5_code
def yX0_holds : MethodName := ⟨RX0, "holds", "(I)Z"⟩
abbrev cX0_flip : ByteArray := prog_2_method_6_code
def yX0_flip : MethodName := ⟨RX0, "flip", "(I)V"⟩
abbrev cX0_neighboursInBay : ByteArray := prog_2_method_7_code
def yX0_neighboursInBay : MethodName := ⟨RX0, "neighboursInBay", "(I)I"⟩
abbrev cX0_move : ByteArray := prog_2_method_8_code
def yX0_move : MethodName := ⟨RX0, "move", "(IIZ)I"⟩
abbrev cX0_adaptBoat : ByteArray := prog_2_method_9_code
def yX0_adaptBoat : MethodName := ⟨RX0, "adaptBoat", "(I)Z"⟩
abbrev cX0_becomeBest : ByteArray := prog_2_method_10_code
def yX0_becomeBest : MethodName := ⟨RX0, "becomeBest", "(I)I"⟩
abbrev cX0_enterHarbour : ByteArray := prog_2_method_11_code
def yX0_enterHarbour : MethodName := ⟨RX0, "enterHarbour", "()I"⟩
abbrev cX0_baySavingMost : ByteArray := prog_2_method_12_code
def yX0_baySavingMost : MethodName := ⟨RX0, "baySavingMost", "(I)I"⟩
abbrev cX0_canHold : ByteArray := prog_2_method_13_code
def yX0_canHold : MethodName := ⟨RX0, "canHold", "(II)Z"⟩
abbrev cX0_unitsAs : ByteArray := prog_2_method_14_code
def yX0_unitsAs : MethodName := ⟨RX0, "unitsAs", "(II)I"⟩
abbrev cX0_bestKind : ByteArray := prog_2_method_15_code
def yX0_bestKind : MethodName := ⟨RX0, "bestKind", "(I)I"⟩
abbrev cX0_tollToBest : ByteArray := prog_2_method_16_code
def yX0_tollToBest : MethodName := ⟨RX0, "tollToBest", "(I)I"⟩
abbrev cX0_fillWith : ByteArray := prog_2_method_17_code
def yX0_fillWith : MethodName := ⟨RX0, "fillWith", "(ILBoatSets$Fleet;LBoatSets$Fleet;)V"⟩
abbrev cX0_numbers : ByteArray := prog_2_method_18_code
def yX0_numbers : MethodName := ⟨RX0, "numbers", "()I"⟩
abbrev cX0_boats : ByteArray := prog_2_method_19_code
def yX0_boats : MethodName := ⟨RX0, "boats", "()I"⟩
abbrev cX0_boatsOfKind : ByteArray := prog_2_method_20_code
def yX0_boatsOfKind : MethodName := ⟨RX0, "boatsOfKind", "(I)I"⟩
abbrev cX0_units : ByteArray := prog_2_method_21_code
def yX0_units : MethodName := ⟨RX0, "units", "()I"⟩
abbrev cX0_bestUnits : ByteArray := prog_2_method_22_code
def yX0_bestUnits : MethodName := ⟨RX0, "bestUnits", "()I"⟩
abbrev cX0_allRuns : ByteArray := prog_2_method_23_code
def yX0_allRuns : MethodName := ⟨RX0, "allRuns", "()I"⟩
abbrev cX0_numbersBelow : ByteArray := prog_2_method_24_code
def yX0_numbersBelow : MethodName := ⟨RX0, "numbersBelow", "(I)I"⟩
abbrev cX0_numberAt : ByteArray := prog_2_method_25_code
def yX0_numberAt : MethodName := ⟨RX0, "numberAt", "(I)I"⟩
abbrev cX0_placeOfBit : ByteArray := prog_2_method_26_code
def yX0_placeOfBit : MethodName := ⟨RX0, "placeOfBit", "(JI)I"⟩
abbrev cX0_firstFrom : ByteArray := prog_2_method_27_code
def yX0_firstFrom : MethodName := ⟨RX0, "firstFrom", "(I)I"⟩
abbrev cX0_firstGap : ByteArray := prog_2_method_28_code
def yX0_firstGap : MethodName := ⟨RX0, "firstGap", "(I)I"⟩
def RX1 : String := "BoatSets$Harbour"
def TX1 : u_T := fun k => match k with
  | 0 => ("BoatSets$Harbour", "fleets", "[LBoatSets$Fleet;", true)
  | _ => ("BoatSets$Harbour", "sets", "I", false)
def tyX1 : Nat → FieldType := fun k => match k with
  | 0 => .array (.object "BoatSets$Fleet")
  | _ => .int
abbrev wsX10 : List Cond := u_ws RX1 TX1 2
theorem nmX1 : ∀ a, a < 2 → ∀ b, b < 2 → a ≠ b → (TX1 a).2.1 ≠ (TX1 b).2.1 := by decide +kernel
theorem tyX1_ok : ∀ k, k < 2 → parseFieldDescriptor (TX1 k).2.2.1 = some (tyX1 k) := by decide +kernel
abbrev cX1_init : ByteArray := prog_3_method_1_code
def yX1_init : MethodName := ⟨RX1, "<init>", "()V"⟩
abbrev cX1_copyFrom : ByteArray := prog_3_method_2_code
def yX1_copyFrom : MethodName := ⟨RX1, "copyFrom", "(LBoatSets$Harbour;)V"⟩
abbrev cX1_open : ByteArray := prog_3_method_3_code
def yX1_open : MethodName := ⟨RX1, "open", "(I)I"⟩
abbrev cX1_setsAtSea : ByteArray := prog_3_method_4_code
def yX1_setsAtSea : MethodName := ⟨RX1, "setsAtSea", "()I"⟩
abbrev cX1_boatsOfKind : ByteArray := prog_3_method_5_code
def yX1_boatsOfKind : MethodName := ⟨RX1, "boatsOfKind", "(I)I"⟩
abbrev cX1_units : ByteArray := prog_3_method_6_code
def yX1_units : MethodName := ⟨RX1, "units", "()I"⟩
abbrev cX1_numbers : ByteArray := prog_3_method_7_code
def yX1_numbers : MethodName := ⟨RX1, "numbers", "()I"⟩
abbrev cX1_tollsPaid : ByteArray := prog_3_method_8_code
def yX1_tollsPaid : MethodName := ⟨RX1, "tollsPaid", "()I"⟩
abbrev cX1_differentNumbers : ByteArray := prog_3_method_9_code
def yX1_differentNumbers : MethodName := ⟨RX1, "differentNumbers", "()I"⟩
abbrev cX1_heldByAny : ByteArray := prog_3_method_10_code
def yX1_heldByAny : MethodName := ⟨RX1, "heldByAny", "(I)J"⟩
abbrev cX1_holders : ByteArray := prog_3_method_11_code
def yX1_holders : MethodName := ⟨RX1, "holders", "(I)I"⟩
abbrev cX1_mostHeld : ByteArray := prog_3_method_12_code
def yX1_mostHeld : MethodName := ⟨RX1, "mostHeld", "()I"⟩
abbrev cX1_numberOfAll : ByteArray := prog_3_method_13_code
def yX1_numberOfAll : MethodName := ⟨RX1, "numberOfAll", "(I)I"⟩
def RX2 : String := "BoatSets$History"
def TX2 : u_T := fun k => match k with
  | 0 => ("BoatSets$History", "states", "[LBoatSets$Harbour;", true)
  | _ => ("BoatSets$History", "size", "I", false)
def tyX2 : Nat → FieldType := fun k => match k with
  | 0 => .array (.object "BoatSets$Harbour")
  | _ => .int
abbrev wsX20 : List Cond := u_ws RX2 TX2 2
theorem nmX2 : ∀ a, a < 2 → ∀ b, b < 2 → a ≠ b → (TX2 a).2.1 ≠ (TX2 b).2.1 := by decide +kernel
theorem tyX2_ok : ∀ k, k < 2 → parseFieldDescriptor (TX2 k).2.2.1 = some (tyX2 k) := by decide +kernel
abbrev cX2_init : ByteArray := prog_4_method_1_code
def yX2_init : MethodName := ⟨RX2, "<init>", "()V"⟩
abbrev cX2_push : ByteArray := prog_4_method_2_code
def yX2_push : MethodName := ⟨RX2, "push", "(LBoatSets$Harbour;)V"⟩
abbrev cX2_dropOldest : ByteArray := prog_4_method_3_code
def yX2_dropOldest : MethodName := ⟨RX2, "dropOldest", "()V"⟩
abbrev cX2_popInto : ByteArray := prog_4_method_4_code
def yX2_popInto : MethodName := ⟨RX2, "popInto", "(LBoatSets$Harbour;)V"⟩
def RX3 : String := "BoatSets$RangeText"
def TX3 : u_T := fun k => match k with
  | 0 => ("BoatSets$RangeText", "characters", "[C", true)
  | 1 => ("BoatSets$RangeText", "firsts", "[I", true)
  | 2 => ("BoatSets$RangeText", "lasts", "[I", true)
  | 3 => ("BoatSets$RangeText", "length", "I", false)
  | _ => ("BoatSets$RangeText", "ranges", "I", false)
def tyX3 : Nat → FieldType := fun k => match k with
  | 0 => .array .char
  | 1 => .array .int
  | 2 => .array .int
  | 3 => .int
  | _ => .int
abbrev wsX30 : List Cond := u_ws RX3 TX3 5
theorem nmX3 : ∀ a, a < 5 → ∀ b, b < 5 → a ≠ b → (TX3 a).2.1 ≠ (TX3 b).2.1 := by decide +kernel
theorem tyX3_ok : ∀ k, k < 5 → parseFieldDescriptor (TX3 k).2.2.1 = some (tyX3 k) := by decide +kernel
abbrev cX3_init : ByteArray := prog_5_method_1_code
def yX3_init : MethodName := ⟨RX3, "<init>", "()V"⟩
abbrev cX3_read : ByteArray := prog_5_method_2_code
def yX3_read : MethodName := ⟨RX3, "read", "()I"⟩
abbrev cX3_noteRange : ByteArray := prog_5_method_3_code
def yX3_noteRange : MethodName := ⟨RX3, "noteRange", "(II)V"⟩
abbrev cX3_hasGoodValues : ByteArray := prog_5_method_4_code
def yX3_hasGoodValues : MethodName := ⟨RX3, "hasGoodValues", "()Z"⟩
def RX4 : String := "BoatSets"
def TX4 : u_T := fun k => match k with
  | 0 => ("BoatSets", "now", "LBoatSets$Harbour;", true)
  | 1 => ("BoatSets", "snapshot", "LBoatSets$Harbour;", true)
  | 2 => ("BoatSets", "past", "LBoatSets$History;", true)
  | 3 => ("BoatSets", "text", "LBoatSets$RangeText;", true)
  | 4 => ("BoatSets", "trial", "LBoatSets$Fleet;", true)
  | _ => ("BoatSets", "hasSnapshot", "Z", false)
def tyX4 : Nat → FieldType := fun k => match k with
  | 0 => .object "BoatSets$Harbour"
  | 1 => .object "BoatSets$Harbour"
  | 2 => .object "BoatSets$History"
  | 3 => .object "BoatSets$RangeText"
  | 4 => .object "BoatSets$Fleet"
  | _ => .boolean
abbrev wsX40 : List Cond := u_ws RX4 TX4 6
theorem nmX4 : ∀ a, a < 6 → ∀ b, b < 6 → a ≠ b → (TX4 a).2.1 ≠ (TX4 b).2.1 := by decide +kernel
theorem tyX4_ok : ∀ k, k < 6 → parseFieldDescriptor (TX4 k).2.2.1 = some (tyX4 k) := by decide +kernel
abbrev cX4_init : ByteArray := prog_1_method_1_code
def yX4_init : MethodName := ⟨RX4, "<init>", "()V"⟩
abbrev cX4_newSet : ByteArray := prog_1_method_2_code
def yX4_newSet : MethodName := ⟨RX4, "newSet", "(I)I"⟩
abbrev cX4_pay : ByteArray := prog_1_method_3_code
def yX4_pay : MethodName := ⟨RX4, "pay", "(II)I"⟩
abbrev cX4_sail : ByteArray := prog_1_method_4_code
def yX4_sail : MethodName := ⟨RX4, "sail", "(I)I"⟩
abbrev cX4_dock : ByteArray := prog_1_method_5_code
def yX4_dock : MethodName := ⟨RX4, "dock", "(I)I"⟩
abbrev cX4_add : ByteArray := prog_1_method_6_code
def yX4_add : MethodName := ⟨RX4, "add", "(II)I"⟩
abbrev cX4_remove : ByteArray := prog_1_method_7_code
def yX4_remove : MethodName := ⟨RX4, "remove", "(II)I"⟩
abbrev cX4_addRange : ByteArray := prog_1_method_8_code
def yX4_addRange : MethodName := ⟨RX4, "addRange", "(III)I"⟩
abbrev cX4_removeRange : ByteArray := prog_1_method_9_code
def yX4_removeRange : MethodName := ⟨RX4, "removeRange", "(III)I"⟩
abbrev cX4_combine : ByteArray := prog_1_method_10_code
def yX4_combine : MethodName := ⟨RX4, "combine", "(IIII)I"⟩
abbrev cX4_type : ByteArray := prog_1_method_11_code
def yX4_type : MethodName := ⟨RX4, "type", "(C)I"⟩
abbrev cX4_clearText : ByteArray := prog_1_method_12_code
def yX4_clearText : MethodName := ⟨RX4, "clearText", "()I"⟩
abbrev cX4_readRanges : ByteArray := prog_1_method_13_code
def yX4_readRanges : MethodName := ⟨RX4, "readRanges", "(I)I"⟩
abbrev cX4_undo : ByteArray := prog_1_method_14_code
def yX4_undo : MethodName := ⟨RX4, "undo", "()I"⟩
abbrev cX4_keep : ByteArray := prog_1_method_15_code
def yX4_keep : MethodName := ⟨RX4, "keep", "()I"⟩
abbrev cX4_restore : ByteArray := prog_1_method_16_code
def yX4_restore : MethodName := ⟨RX4, "restore", "()I"⟩
abbrev cX4_has : ByteArray := prog_1_method_17_code
def yX4_has : MethodName := ⟨RX4, "has", "(II)I"⟩
abbrev cX4_set : ByteArray := prog_1_method_18_code
def yX4_set : MethodName := ⟨RX4, "set", "(II)I"⟩
abbrev cX4_boat : ByteArray := prog_1_method_19_code
def yX4_boat : MethodName := ⟨RX4, "boat", "(III)I"⟩
abbrev cX4_rank : ByteArray := prog_1_method_20_code
def yX4_rank : MethodName := ⟨RX4, "rank", "(II)I"⟩
abbrev cX4_at : ByteArray := prog_1_method_21_code
def yX4_at : MethodName := ⟨RX4, "at", "(II)I"⟩
abbrev cX4_next : ByteArray := prog_1_method_22_code
def yX4_next : MethodName := ⟨RX4, "next", "(II)I"⟩
abbrev cX4_nearest : ByteArray := prog_1_method_23_code
def yX4_nearest : MethodName := ⟨RX4, "nearest", "(II)I"⟩
abbrev cX4_gap : ByteArray := prog_1_method_24_code
def yX4_gap : MethodName := ⟨RX4, "gap", "(II)I"⟩
abbrev cX4_sizeOf : ByteArray := prog_1_method_25_code
def yX4_sizeOf : MethodName := ⟨RX4, "sizeOf", "(III)I"⟩
abbrev cX4_ofAll : ByteArray := prog_1_method_26_code
def yX4_ofAll : MethodName := ⟨RX4, "ofAll", "(I)I"⟩
abbrev cX4_most : ByteArray := prog_1_method_27_code
def yX4_most : MethodName := ⟨RX4, "most", "()I"⟩
abbrev cX4_tollToDock : ByteArray := prog_1_method_28_code
def yX4_tollToDock : MethodName := ⟨RX4, "tollToDock", "(I)I"⟩
abbrev cX4_count : ByteArray := prog_1_method_29_code
def yX4_count : MethodName := ⟨RX4, "count", "(I)I"⟩
abbrev cX4_isSet : ByteArray := prog_1_method_30_code
def yX4_isSet : MethodName := ⟨RX4, "isSet", "(I)Z"⟩
abbrev cX4_isNumber : ByteArray := prog_1_method_31_code
def yX4_isNumber : MethodName := ⟨RX4, "isNumber", "(I)Z"⟩
abbrev cX4_isHow : ByteArray := prog_1_method_32_code
def yX4_isHow : MethodName := ⟨RX4, "isHow", "(I)Z"⟩
abbrev cX4_moveRange : ByteArray := prog_1_method_33_code
def yX4_moveRange : MethodName := ⟨RX4, "moveRange", "(IIIZ)I"⟩
abbrev cX4_settleTrial : ByteArray := prog_1_method_34_code
def yX4_settleTrial : MethodName := ⟨RX4, "settleTrial", "(II)I"⟩
abbrev cX4_join : ByteArray := prog_1_method_35_code
def yX4_join : MethodName := ⟨RX4, "join", "(IJJ)J"⟩
def RX5 : String := "BoatSetsModel"
def TX5 : u_T := fun k => match k with
  | 0 => ("BoatSetsModel", "now", "[I", true)
  | 1 => ("BoatSetsModel", "past", "[I", true)
  | 2 => ("BoatSetsModel", "pasts", "I", false)
  | 3 => ("BoatSetsModel", "kept", "[I", true)
  | 4 => ("BoatSetsModel", "isKept", "Z", false)
  | 5 => ("BoatSetsModel", "trial", "[I", true)
  | 6 => ("BoatSetsModel", "text", "[I", true)
  | 7 => ("BoatSetsModel", "typed", "I", false)
  | 8 => ("BoatSetsModel", "looked", "I", false)
  | 9 => ("BoatSetsModel", "given", "[I", true)
  | 10 => ("BoatSetsModel", "numbers", "[I", true)
  | 11 => ("BoatSetsModel", "readMany", "I", false)
  | _ => ("BoatSetsModel", "at", "I", false)
def tyX5 : Nat → FieldType := fun k => match k with
  | 0 => .array .int
  | 1 => .array .int
  | 2 => .int
  | 3 => .array .int
  | 4 => .boolean
  | 5 => .array .int
  | 6 => .array .int
  | 7 => .int
  | 8 => .int
  | 9 => .array .int
  | 10 => .array .int
  | 11 => .int
  | _ => .int
abbrev wsX50 : List Cond := u_ws RX5 TX5 13
theorem nmX5 : ∀ a, a < 13 → ∀ b, b < 13 → a ≠ b → (TX5 a).2.1 ≠ (TX5 b).2.1 := by decide +kernel
theorem tyX5_ok : ∀ k, k < 13 → parseFieldDescriptor (TX5 k).2.2.1 = some (tyX5 k) := by decide +kernel
abbrev cX5_init : ByteArray := prog_7_method_1_code
def yX5_init : MethodName := ⟨RX5, "<init>", "()V"⟩
abbrev cX5_in : ByteArray := prog_7_method_2_code
def yX5_in : MethodName := ⟨RX5, "in", "(III)Z"⟩
abbrev cX5_copies : ByteArray := prog_7_method_3_code
def yX5_copies : MethodName := ⟨RX5, "copies", "([II[II)V"⟩
abbrev cX5_records : ByteArray := prog_7_method_4_code
def yX5_records : MethodName := ⟨RX5, "records", "([I)V"⟩
abbrev cX5_isSet : ByteArray := prog_7_method_5_code
def yX5_isSet : MethodName := ⟨RX5, "isSet", "(I)Z"⟩
abbrev cX5_isNumber : ByteArray := prog_7_method_6_code
def yX5_isNumber : MethodName := ⟨RX5, "isNumber", "(I)Z"⟩
abbrev cX5_of : ByteArray := prog_7_method_7_code
def yX5_of : MethodName := ⟨RX5, "of", "(II)I"⟩
abbrev cX5_lays : ByteArray := prog_7_method_8_code
def yX5_lays : MethodName := ⟨RX5, "lays", "(III)V"⟩
abbrev cX5_isIn : ByteArray := prog_7_method_9_code
def yX5_isIn : MethodName := ⟨RX5, "isIn", "(II)Z"⟩
abbrev cX5_puts : ByteArray := prog_7_method_10_code
def yX5_puts : MethodName := ⟨RX5, "puts", "(IIZ)V"⟩
abbrev cX5_kindOf : ByteArray := prog_7_method_11_code
def yX5_kindOf : MethodName := ⟨RX5, "kindOf", "(II)I"⟩
abbrev cX5_manyIn : ByteArray := prog_7_method_12_code
def yX5_manyIn : MethodName := ⟨RX5, "manyIn", "(II)I"⟩
abbrev cX5_runsIn : ByteArray := prog_7_method_13_code
def yX5_runsIn : MethodName := ⟨RX5, "runsIn", "(II)I"⟩
abbrev cX5_holds : ByteArray := prog_7_method_14_code
def yX5_holds : MethodName := ⟨RX5, "holds", "(III)Z"⟩
abbrev cX5_units : ByteArray := prog_7_method_15_code
def yX5_units : MethodName := ⟨RX5, "units", "(III)I"⟩
abbrev cX5_best : ByteArray := prog_7_method_16_code
def yX5_best : MethodName := ⟨RX5, "best", "(II)I"⟩
abbrev cX5_unitsOf : ByteArray := prog_7_method_17_code
def yX5_unitsOf : MethodName := ⟨RX5, "unitsOf", "(II)I"⟩
abbrev cX5_bestOf : ByteArray := prog_7_method_18_code
def yX5_bestOf : MethodName := ⟨RX5, "bestOf", "(II)I"⟩
abbrev cX5_tollOf : ByteArray := prog_7_method_19_code
def yX5_tollOf : MethodName := ⟨RX5, "tollOf", "(II)I"⟩
abbrev cX5_becomes : ByteArray := prog_7_method_20_code
def yX5_becomes : MethodName := ⟨RX5, "becomes", "(II)V"⟩
abbrev cX5_goes : ByteArray := prog_7_method_21_code
def yX5_goes : MethodName := ⟨RX5, "goes", "(IIZ)Z"⟩
abbrev cX5_newSet : ByteArray := prog_7_method_22_code
def yX5_newSet : MethodName := ⟨RX5, "newSet", "(I)I"⟩
abbrev cX5_pay : ByteArray := prog_7_method_23_code
def yX5_pay : MethodName := ⟨RX5, "pay", "(II)I"⟩
abbrev cX5_boatsOf : ByteArray := prog_7_method_24_code
def yX5_boatsOf : MethodName := ⟨RX5, "boatsOf", "(I)I"⟩
abbrev cX5_sail : ByteArray := prog_7_method_25_code
def yX5_sail : MethodName := ⟨RX5, "sail", "(I)I"⟩
abbrev cX5_nextToDock : ByteArray := prog_7_method_26_code
def yX5_nextToDock : MethodName := ⟨RX5, "nextToDock", "(I)I"⟩
abbrev cX5_docks : ByteArray := prog_7_method_27_code
def yX5_docks : MethodName := ⟨RX5, "docks", "(I)I"⟩
abbrev cX5_dock : ByteArray := prog_7_method_28_code
def yX5_dock : MethodName := ⟨RX5, "dock", "(I)I"⟩
abbrev cX5_add : ByteArray := prog_7_method_29_code
def yX5_add : MethodName := ⟨RX5, "add", "(II)I"⟩
abbrev cX5_remove : ByteArray := prog_7_method_30_code
def yX5_remove : MethodName := ⟨RX5, "remove", "(II)I"⟩
abbrev cX5_goesAll : ByteArray := prog_7_method_31_code
def yX5_goesAll : MethodName := ⟨RX5, "goesAll", "(IIIZ)I"⟩
abbrev cX5_ends : ByteArray := prog_7_method_32_code
def yX5_ends : MethodName := ⟨RX5, "ends", "(I)I"⟩
abbrev cX5_ranges : ByteArray := prog_7_method_33_code
def yX5_ranges : MethodName := ⟨RX5, "ranges", "(IIIZ)I"⟩
abbrev cX5_addRange : ByteArray := prog_7_method_34_code
def yX5_addRange : MethodName := ⟨RX5, "addRange", "(III)I"⟩
abbrev cX5_removeRange : ByteArray := prog_7_method_35_code
def yX5_removeRange : MethodName := ⟨RX5, "removeRange", "(III)I"⟩
abbrev cX5_gives : ByteArray := prog_7_method_36_code
def yX5_gives : MethodName := ⟨RX5, "gives", "(IZZ)Z"⟩
abbrev cX5_laysGiven : ByteArray := prog_7_method_37_code
def yX5_laysGiven : MethodName := ⟨RX5, "laysGiven", "(III)I"⟩
abbrev cX5_combine : ByteArray := prog_7_method_38_code
def yX5_combine : MethodName := ⟨RX5, "combine", "(IIII)I"⟩
abbrev cX5_type : ByteArray := prog_7_method_39_code
def yX5_type : MethodName := ⟨RX5, "type", "(C)I"⟩
abbrev cX5_clearText : ByteArray := prog_7_method_40_code
def yX5_clearText : MethodName := ⟨RX5, "clearText", "()I"⟩
abbrev cX5_signAt : ByteArray := prog_7_method_41_code
def yX5_signAt : MethodName := ⟨RX5, "signAt", "(I)I"⟩
abbrev cX5_readsNumber : ByteArray := prog_7_method_42_code
def yX5_readsNumber : MethodName := ⟨RX5, "readsNumber", "()I"⟩
abbrev cX5_faultOf : ByteArray := prog_7_method_43_code
def yX5_faultOf : MethodName := ⟨RX5, "faultOf", "()I"⟩
abbrev cX5_readRanges : ByteArray := prog_7_method_44_code
def yX5_readRanges : MethodName := ⟨RX5, "readRanges", "(I)I"⟩
abbrev cX5_undo : ByteArray := prog_7_method_45_code
def yX5_undo : MethodName := ⟨RX5, "undo", "()I"⟩
abbrev cX5_keep : ByteArray := prog_7_method_46_code
def yX5_keep : MethodName := ⟨RX5, "keep", "()I"⟩
abbrev cX5_restore : ByteArray := prog_7_method_47_code
def yX5_restore : MethodName := ⟨RX5, "restore", "()I"⟩
abbrev cX5_has : ByteArray := prog_7_method_48_code
def yX5_has : MethodName := ⟨RX5, "has", "(II)I"⟩
abbrev cX5_rankOf : ByteArray := prog_7_method_49_code
def yX5_rankOf : MethodName := ⟨RX5, "rankOf", "(II)I"⟩
abbrev cX5_firstFrom : ByteArray := prog_7_method_50_code
def yX5_firstFrom : MethodName := ⟨RX5, "firstFrom", "(III)I"⟩
abbrev cX5_sumOf : ByteArray := prog_7_method_51_code
def yX5_sumOf : MethodName := ⟨RX5, "sumOf", "(II)I"⟩
abbrev cX5_set : ByteArray := prog_7_method_52_code
def yX5_set : MethodName := ⟨RX5, "set", "(II)I"⟩
abbrev cX5_boat : ByteArray := prog_7_method_53_code
def yX5_boat : MethodName := ⟨RX5, "boat", "(III)I"⟩
abbrev cX5_rank : ByteArray := prog_7_method_54_code
def yX5_rank : MethodName := ⟨RX5, "rank", "(II)I"⟩
abbrev cX5_at : ByteArray := prog_7_method_55_code
def yX5_at : MethodName := ⟨RX5, "at", "(II)I"⟩
abbrev cX5_next : ByteArray := prog_7_method_56_code
def yX5_next : MethodName := ⟨RX5, "next", "(II)I"⟩
abbrev cX5_nearest : ByteArray := prog_7_method_57_code
def yX5_nearest : MethodName := ⟨RX5, "nearest", "(II)I"⟩
abbrev cX5_gap : ByteArray := prog_7_method_58_code
def yX5_gap : MethodName := ⟨RX5, "gap", "(II)I"⟩
abbrev cX5_sizeOf : ByteArray := prog_7_method_59_code
def yX5_sizeOf : MethodName := ⟨RX5, "sizeOf", "(III)I"⟩
abbrev cX5_setsWith : ByteArray := prog_7_method_60_code
def yX5_setsWith : MethodName := ⟨RX5, "setsWith", "(I)I"⟩
abbrev cX5_ofAll : ByteArray := prog_7_method_61_code
def yX5_ofAll : MethodName := ⟨RX5, "ofAll", "(I)I"⟩
abbrev cX5_most : ByteArray := prog_7_method_62_code
def yX5_most : MethodName := ⟨RX5, "most", "()I"⟩
abbrev cX5_tollToDock : ByteArray := prog_7_method_63_code
def yX5_tollToDock : MethodName := ⟨RX5, "tollToDock", "(I)I"⟩
abbrev cX5_overAll : ByteArray := prog_7_method_64_code
def yX5_overAll : MethodName := ⟨RX5, "overAll", "(I)I"⟩
abbrev cX5_different : ByteArray := prog_7_method_65_code
def yX5_different : MethodName := ⟨RX5, "different", "()I"⟩
abbrev cX5_count : ByteArray := prog_7_method_66_code
def yX5_count : MethodName := ⟨RX5, "count", "(I)I"⟩
def RJ13 : String := "java/lang/Long"
def TJ13 : u_T := fun k => match k with
  | _ => ("", "", "", false)
def tyJ13 : Nat → FieldType := fun k => match k with
  | _ => .int
abbrev wsJ130 : List Cond := u_ws RJ13 TJ13 0
theorem nmJ13 : ∀ a, a < 0 → ∀ b, b < 0 → a ≠ b → (TJ13 a).2.1 ≠ (TJ13 b).2.1 := by decide +kernel
theorem tyJ13_ok : ∀ k, k < 0 → parseFieldDescriptor (TJ13 k).2.2.1 = some (tyJ13 k) := by decide +kernel
abbrev cJ13_bitCount_95d88 : ByteArray := prog_8_method_50_code
def yJ13_bitCount_95d88 : MethodName := ⟨RJ13, "bitCount", "(J)I"⟩
def RJ9 : String := "java/lang/Math"
def TJ9 : u_T := fun k => match k with
  | _ => ("", "", "", false)
def tyJ9 : Nat → FieldType := fun k => match k with
  | _ => .int
abbrev wsJ90 : List Cond := u_ws RJ9 TJ9 0
theorem nmJ9 : ∀ a, a < 0 → ∀ b, b < 0 → a ≠ b → (TJ9 a).2.1 ≠ (TJ9 b).2.1 := by decide +kernel
theorem tyJ9_ok : ∀ k, k < 0 → parseFieldDescriptor (TJ9 k).2.2.1 = some (tyJ9 k) := by decide +kernel
abbrev cJ9_max_7cf53 : ByteArray := prog_9_method_65_code
def yJ9_max_7cf53 : MethodName := ⟨RJ9, "max", "(II)I"⟩
abbrev cJ9_min_7cf53 : ByteArray := prog_9_method_69_code
def yJ9_min_7cf53 : MethodName := ⟨RJ9, "min", "(II)I"⟩
def RJ10 : String := "java/lang/System"
def TJ10 : u_T := fun k => match k with
  | _ => ("", "", "", false)
def tyJ10 : Nat → FieldType := fun k => match k with
  | _ => .int
abbrev wsJ100 : List Cond := u_ws RJ10 TJ10 0
theorem nmJ10 : ∀ a, a < 0 → ∀ b, b < 0 → a ≠ b → (TJ10 a).2.1 ≠ (TJ10 b).2.1 := by decide +kernel
theorem tyJ10_ok : ∀ k, k < 0 → parseFieldDescriptor (TJ10 k).2.2.1 = some (tyJ10 k) := by decide +kernel
def RJ7 : String := "java/util/Arrays"
def TJ7 : u_T := fun k => match k with
  | _ => ("", "", "", false)
def tyJ7 : Nat → FieldType := fun k => match k with
  | _ => .int
abbrev wsJ70 : List Cond := u_ws RJ7 TJ7 0
theorem nmJ7 : ∀ a, a < 0 → ∀ b, b < 0 → a ≠ b → (TJ7 a).2.1 ≠ (TJ7 b).2.1 := by decide +kernel
theorem tyJ7_ok : ∀ k, k < 0 → parseFieldDescriptor (TJ7 k).2.2.1 = some (tyJ7 k) := by decide +kernel
abbrev cJ7_fill_d0a16 : ByteArray := prog_11_method_101_code
def yJ7_fill_d0a16 : MethodName := ⟨RJ7, "fill", "([JJ)V"⟩
abbrev cJ7_fill_53178 : ByteArray := prog_11_method_103_code
def yJ7_fill_53178 : MethodName := ⟨RJ7, "fill", "([II)V"⟩
def RL : String := "BoatSetsLaw"
abbrev cL_law : ByteArray := code
def yL_law : MethodName := ⟨RL, "law", "([I)Z"⟩
def wsX0_init : List Cond := .code yX0_init cX0_init 1 none :: ([.methodLink RX0 3 objectInit, .instanceMethod objectInit, .code objectInit ⟨#[0xb1]⟩ 1 none, .arrayClass .long, .fieldLink RX0 9 "BoatSets$Fleet" "words" "[J", .arrayClass .int, .fieldLink RX0 15 "BoatSets$Fleet" "kinds" "[I", .fieldLink RX0 19 "BoatSets$Fleet" "sizes" "[I", .fieldLink RX0 22 "BoatSets$Fleet" "runs" "[I"] ++ wsX00)
def wsJ7_fill_d0a16 : List Cond := .code yJ7_fill_d0a16 cJ7_fill_d0a16 5 none :: ([])
def wsJ7_fill_53178 : List Cond := .code yJ7_fill_53178 cJ7_fill_53178 4 none :: ([])
def wsX0_clearNumbers : List Cond := .code yX0_clearNumbers cX0_clearNumbers 1 none :: ([.fieldLink RX0 9 "BoatSets$Fleet" "words" "[J", .fieldLink RX0 15 "BoatSets$Fleet" "kinds" "[I", .fieldLink RX0 19 "BoatSets$Fleet" "sizes" "[I", .fieldLink RX0 22 "BoatSets$Fleet" "runs" "[I", .methodLink RX0 39 yJ7_fill_d0a16, .static yJ7_fill_d0a16, .initialized RJ7, .code yJ7_fill_d0a16 cJ7_fill_d0a16 5 none, .methodLink RX0 45 yJ7_fill_53178, .static yJ7_fill_53178, .code yJ7_fill_53178 cJ7_fill_53178 4 none] ++ wsX00)
def wsX0_begin : List Cond := .code yX0_begin cX0_begin 2 none :: ([.fieldLink RX0 28 "BoatSets$Fleet" "purse" "I", .fieldLink RX0 32 "BoatSets$Fleet" "paid" "I", .fieldLink RX0 35 "BoatSets$Fleet" "atSea" "Z", .methodLink RX0 25 yX0_clearNumbers, .instanceMethod yX0_clearNumbers, .selects RX0 yX0_clearNumbers yX0_clearNumbers, .initialized RX0, .code yX0_clearNumbers cX0_clearNumbers 1 none, .fieldLink RX0 9 "BoatSets$Fleet" "words" "[J", .fieldLink RX0 15 "BoatSets$Fleet" "kinds" "[I", .fieldLink RX0 19 "BoatSets$Fleet" "sizes" "[I", .fieldLink RX0 22 "BoatSets$Fleet" "runs" "[I", .methodLink RX0 39 yJ7_fill_d0a16, .static yJ7_fill_d0a16, .initialized RJ7, .code yJ7_fill_d0a16 cJ7_fill_d0a16 5 none, .methodLink RX0 45 yJ7_fill_53178, .static yJ7_fill_53178, .code yJ7_fill_53178 cJ7_fill_53178 4 none] ++ wsX00)
def wsX0_copyFrom : List Cond := .code yX0_copyFrom cX0_copyFrom 2 none :: ([.fieldLink RX0 9 "BoatSets$Fleet" "words" "[J", .methodLink RX0 48 arraycopyName, .native arraycopyName, .static arraycopyName, .initialized "java/lang/System", .fieldLink RX0 15 "BoatSets$Fleet" "kinds" "[I", .fieldLink RX0 19 "BoatSets$Fleet" "sizes" "[I", .fieldLink RX0 22 "BoatSets$Fleet" "runs" "[I", .fieldLink RX0 28 "BoatSets$Fleet" "purse" "I", .fieldLink RX0 32 "BoatSets$Fleet" "paid" "I", .fieldLink RX0 35 "BoatSets$Fleet" "atSea" "Z"] ++ wsX00)
def wsX4_isNumber : List Cond := .code yX4_isNumber cX4_isNumber 1 (some .boolean) :: ([])
def wsX0_holds : List Cond := .code yX0_holds cX0_holds 2 (some .boolean) :: ([.fieldLink RX0 9 "BoatSets$Fleet" "words" "[J", .static yX4_isNumber, .initialized RX4, .code yX4_isNumber cX4_isNumber 1 (some .boolean)] ++ wsX00)
def wsX0_neighboursInBay : List Cond := .code yX0_neighboursInBay cX0_neighboursInBay 4 (some .int) :: ([.methodLink RX0 58 yX0_holds, .instanceMethod yX0_holds, .selects RX0 yX0_holds yX0_holds, .initialized RX0, .code yX0_holds cX0_holds 2 (some .boolean), .fieldLink RX0 9 "BoatSets$Fleet" "words" "[J", .static yX4_isNumber, .initialized RX4, .code yX4_isNumber cX4_isNumber 1 (some .boolean)] ++ wsX00)
def wsX0_flip : List Cond := .code yX0_flip cX0_flip 4 none :: ([.fieldLink RX0 9 "BoatSets$Fleet" "words" "[J", .fieldLink RX0 19 "BoatSets$Fleet" "sizes" "[I", .fieldLink RX0 22 "BoatSets$Fleet" "runs" "[I", .static yX4_isNumber, .initialized RX4, .code yX4_isNumber cX4_isNumber 1 (some .boolean), .methodLink RX0 58 yX0_holds, .instanceMethod yX0_holds, .selects RX0 yX0_holds yX0_holds, .initialized RX0, .code yX0_holds cX0_holds 2 (some .boolean), .methodLink RX0 61 yX0_neighboursInBay, .instanceMethod yX0_neighboursInBay, .selects RX0 yX0_neighboursInBay yX0_neighboursInBay, .code yX0_neighboursInBay cX0_neighboursInBay 4 (some .int)] ++ wsX00)
def wsX0_canHold : List Cond := .code yX0_canHold cX0_canHold 3 (some .boolean) :: ([.fieldLink RX0 19 "BoatSets$Fleet" "sizes" "[I", .fieldLink RX0 22 "BoatSets$Fleet" "runs" "[I"] ++ wsX00)
def wsX0_unitsAs : List Cond := .code yX0_unitsAs cX0_unitsAs 3 (some .int) :: ([.fieldLink RX0 19 "BoatSets$Fleet" "sizes" "[I", .fieldLink RX0 22 "BoatSets$Fleet" "runs" "[I"] ++ wsX00)
def wsX0_bestKind : List Cond := .code yX0_bestKind cX0_bestKind 3 (some .int) :: ([.methodLink RX0 84 yX0_canHold, .instanceMethod yX0_canHold, .selects RX0 yX0_canHold yX0_canHold, .initialized RX0, .code yX0_canHold cX0_canHold 3 (some .boolean), .fieldLink RX0 19 "BoatSets$Fleet" "sizes" "[I", .fieldLink RX0 22 "BoatSets$Fleet" "runs" "[I", .methodLink RX0 91 yX0_unitsAs, .instanceMethod yX0_unitsAs, .selects RX0 yX0_unitsAs yX0_unitsAs, .code yX0_unitsAs cX0_unitsAs 3 (some .int)] ++ wsX00)
def wsX0_becomeBest : List Cond := .code yX0_becomeBest cX0_becomeBest 4 (some .int) :: ([.fieldLink RX0 15 "BoatSets$Fleet" "kinds" "[I", .fieldLink RX0 28 "BoatSets$Fleet" "purse" "I", .fieldLink RX0 32 "BoatSets$Fleet" "paid" "I", .methodLink RX0 88 yX0_bestKind, .instanceMethod yX0_bestKind, .selects RX0 yX0_bestKind yX0_bestKind, .initialized RX0, .code yX0_bestKind cX0_bestKind 3 (some .int), .methodLink RX0 84 yX0_canHold, .instanceMethod yX0_canHold, .selects RX0 yX0_canHold yX0_canHold, .code yX0_canHold cX0_canHold 3 (some .boolean), .fieldLink RX0 19 "BoatSets$Fleet" "sizes" "[I", .fieldLink RX0 22 "BoatSets$Fleet" "runs" "[I", .methodLink RX0 91 yX0_unitsAs, .instanceMethod yX0_unitsAs, .selects RX0 yX0_unitsAs yX0_unitsAs, .code yX0_unitsAs cX0_unitsAs 3 (some .int)] ++ wsX00)
def wsX0_adaptBoat : List Cond := .code yX0_adaptBoat cX0_adaptBoat 2 (some .boolean) :: ([.fieldLink RX0 19 "BoatSets$Fleet" "sizes" "[I", .fieldLink RX0 15 "BoatSets$Fleet" "kinds" "[I", .fieldLink RX0 35 "BoatSets$Fleet" "atSea" "Z", .methodLink RX0 81 yX0_becomeBest, .instanceMethod yX0_becomeBest, .selects RX0 yX0_becomeBest yX0_becomeBest, .initialized RX0, .code yX0_becomeBest cX0_becomeBest 4 (some .int), .fieldLink RX0 28 "BoatSets$Fleet" "purse" "I", .fieldLink RX0 32 "BoatSets$Fleet" "paid" "I", .methodLink RX0 88 yX0_bestKind, .instanceMethod yX0_bestKind, .selects RX0 yX0_bestKind yX0_bestKind, .code yX0_bestKind cX0_bestKind 3 (some .int), .methodLink RX0 84 yX0_canHold, .instanceMethod yX0_canHold, .selects RX0 yX0_canHold yX0_canHold, .code yX0_canHold cX0_canHold 3 (some .boolean), .fieldLink RX0 22 "BoatSets$Fleet" "runs" "[I", .methodLink RX0 91 yX0_unitsAs, .instanceMethod yX0_unitsAs, .selects RX0 yX0_unitsAs yX0_unitsAs, .code yX0_unitsAs cX0_unitsAs 3 (some .int)] ++ wsX00)
def wsX0_move_r1 : List Cond := [Cond.methodLink RX0 65 Lib.Math.max.name, Cond.static Lib.Math.max.name, Cond.initialized "java/lang/Math", Cond.code Lib.Math.max.name Lib.Math.max.code 2 (some .int), Cond.methodLink RX0 71 Lib.Math.min.name, Cond.static Lib.Math.min.name, Cond.code Lib.Math.min.name Lib.Math.min.code 2 (some .int), Cond.methodLink RX0 58 yX0_holds, Cond.instanceMethod yX0_holds, Cond.selects RX0 yX0_holds yX0_holds, Cond.initialized RX0, Cond.code yX0_holds cX0_holds 2 (some .boolean), Cond.fieldLink RX0 9 "BoatSets$Fleet" "words" "[J", Cond.static yX4_isNumber, Cond.initialized RX4, Cond.code yX4_isNumber cX4_isNumber 1 (some .boolean), Cond.methodLink RX0 74 yX0_flip, Cond.instanceMethod yX0_flip, Cond.selects RX0 yX0_flip yX0_flip, Cond.code yX0_flip cX0_flip 4 none, Cond.fieldLink RX0 19 "BoatSets$Fleet" "sizes" "[I", Cond.fieldLink RX0 22 "BoatSets$Fleet" "runs" "[I", Cond.methodLink RX0 61 yX0_neighboursInBay, Cond.instanceMethod yX0_neighboursInBay]
def wsX0_move_r2 : List Cond := [Cond.selects RX0 yX0_neighboursInBay yX0_neighboursInBay, Cond.code yX0_neighboursInBay cX0_neighboursInBay 4 (some .int), Cond.methodLink RX0 78 yX0_adaptBoat, Cond.instanceMethod yX0_adaptBoat, Cond.selects RX0 yX0_adaptBoat yX0_adaptBoat, Cond.code yX0_adaptBoat cX0_adaptBoat 2 (some .boolean), Cond.fieldLink RX0 15 "BoatSets$Fleet" "kinds" "[I", Cond.fieldLink RX0 35 "BoatSets$Fleet" "atSea" "Z", Cond.methodLink RX0 81 yX0_becomeBest, Cond.instanceMethod yX0_becomeBest, Cond.selects RX0 yX0_becomeBest yX0_becomeBest, Cond.code yX0_becomeBest cX0_becomeBest 4 (some .int), Cond.fieldLink RX0 28 "BoatSets$Fleet" "purse" "I", Cond.fieldLink RX0 32 "BoatSets$Fleet" "paid" "I", Cond.methodLink RX0 88 yX0_bestKind, Cond.instanceMethod yX0_bestKind, Cond.selects RX0 yX0_bestKind yX0_bestKind, Cond.code yX0_bestKind cX0_bestKind 3 (some .int), Cond.methodLink RX0 84 yX0_canHold, Cond.instanceMethod yX0_canHold, Cond.selects RX0 yX0_canHold yX0_canHold, Cond.code yX0_canHold cX0_canHold 3 (some .boolean), Cond.methodLink RX0 91 yX0_unitsAs, Cond.instanceMethod yX0_unitsAs]
def wsX0_move_r3 : List Cond := [Cond.selects RX0 yX0_unitsAs yX0_unitsAs, Cond.code yX0_unitsAs cX0_unitsAs 3 (some .int)]
def wsX0_move : List Cond := .code yX0_move cX0_move 8 (some .int) :: ((wsX0_move_r1 ++ (wsX0_move_r2 ++ wsX0_move_r3)) ++ wsX00)
def wsX0_baySavingMost : List Cond := .code yX0_baySavingMost cX0_baySavingMost 7 (some .int) :: ([.fieldLink RX0 15 "BoatSets$Fleet" "kinds" "[I", .methodLink RX0 88 yX0_bestKind, .instanceMethod yX0_bestKind, .selects RX0 yX0_bestKind yX0_bestKind, .initialized RX0, .code yX0_bestKind cX0_bestKind 3 (some .int), .methodLink RX0 84 yX0_canHold, .instanceMethod yX0_canHold, .selects RX0 yX0_canHold yX0_canHold, .code yX0_canHold cX0_canHold 3 (some .boolean), .fieldLink RX0 19 "BoatSets$Fleet" "sizes" "[I", .fieldLink RX0 22 "BoatSets$Fleet" "runs" "[I", .methodLink RX0 91 yX0_unitsAs, .instanceMethod yX0_unitsAs, .selects RX0 yX0_unitsAs yX0_unitsAs, .code yX0_unitsAs cX0_unitsAs 3 (some .int)] ++ wsX00)
def wsX0_enterHarbour_r1 : List Cond := [Cond.fieldLink RX0 35 "BoatSets$Fleet" "atSea" "Z", Cond.methodLink RX0 94 yX0_baySavingMost, Cond.instanceMethod yX0_baySavingMost, Cond.selects RX0 yX0_baySavingMost yX0_baySavingMost, Cond.initialized RX0, Cond.code yX0_baySavingMost cX0_baySavingMost 7 (some .int), Cond.fieldLink RX0 15 "BoatSets$Fleet" "kinds" "[I", Cond.methodLink RX0 88 yX0_bestKind, Cond.instanceMethod yX0_bestKind, Cond.selects RX0 yX0_bestKind yX0_bestKind, Cond.code yX0_bestKind cX0_bestKind 3 (some .int), Cond.methodLink RX0 84 yX0_canHold, Cond.instanceMethod yX0_canHold, Cond.selects RX0 yX0_canHold yX0_canHold, Cond.code yX0_canHold cX0_canHold 3 (some .boolean), Cond.fieldLink RX0 19 "BoatSets$Fleet" "sizes" "[I", Cond.fieldLink RX0 22 "BoatSets$Fleet" "runs" "[I", Cond.methodLink RX0 91 yX0_unitsAs, Cond.instanceMethod yX0_unitsAs, Cond.selects RX0 yX0_unitsAs yX0_unitsAs, Cond.code yX0_unitsAs cX0_unitsAs 3 (some .int), Cond.methodLink RX0 81 yX0_becomeBest, Cond.instanceMethod yX0_becomeBest, Cond.selects RX0 yX0_becomeBest yX0_becomeBest]
def wsX0_enterHarbour_r2 : List Cond := [Cond.code yX0_becomeBest cX0_becomeBest 4 (some .int), Cond.fieldLink RX0 28 "BoatSets$Fleet" "purse" "I", Cond.fieldLink RX0 32 "BoatSets$Fleet" "paid" "I"]
def wsX0_enterHarbour : List Cond := .code yX0_enterHarbour cX0_enterHarbour 5 (some .int) :: ((wsX0_enterHarbour_r1 ++ wsX0_enterHarbour_r2) ++ wsX00)
def wsX0_tollToBest : List Cond := .code yX0_tollToBest cX0_tollToBest 3 (some .int) :: ([.fieldLink RX0 15 "BoatSets$Fleet" "kinds" "[I", .methodLink RX0 88 yX0_bestKind, .instanceMethod yX0_bestKind, .selects RX0 yX0_bestKind yX0_bestKind, .initialized RX0, .code yX0_bestKind cX0_bestKind 3 (some .int), .methodLink RX0 84 yX0_canHold, .instanceMethod yX0_canHold, .selects RX0 yX0_canHold yX0_canHold, .code yX0_canHold cX0_canHold 3 (some .boolean), .fieldLink RX0 19 "BoatSets$Fleet" "sizes" "[I", .fieldLink RX0 22 "BoatSets$Fleet" "runs" "[I", .methodLink RX0 91 yX0_unitsAs, .instanceMethod yX0_unitsAs, .selects RX0 yX0_unitsAs yX0_unitsAs, .code yX0_unitsAs cX0_unitsAs 3 (some .int)] ++ wsX00)
def wsX4_join : List Cond := .code yX4_join cX4_join 5 (some .long) :: ([.constantLong RX4 217 (-1)])
def wsX0_fillWith_r1 : List Cond := [Cond.fieldLink RX0 9 "BoatSets$Fleet" "words" "[J", Cond.fieldLink RX0 15 "BoatSets$Fleet" "kinds" "[I", Cond.methodLink RX0 25 yX0_clearNumbers, Cond.instanceMethod yX0_clearNumbers, Cond.selects RX0 yX0_clearNumbers yX0_clearNumbers, Cond.initialized RX0, Cond.code yX0_clearNumbers cX0_clearNumbers 1 none, Cond.fieldLink RX0 19 "BoatSets$Fleet" "sizes" "[I", Cond.fieldLink RX0 22 "BoatSets$Fleet" "runs" "[I", Cond.methodLink RX0 39 yJ7_fill_d0a16, Cond.static yJ7_fill_d0a16, Cond.initialized RJ7, Cond.code yJ7_fill_d0a16 cJ7_fill_d0a16 5 none, Cond.methodLink RX0 45 yJ7_fill_53178, Cond.static yJ7_fill_53178, Cond.code yJ7_fill_53178 cJ7_fill_53178 4 none, Cond.static yX4_join, Cond.initialized RX4, Cond.code yX4_join cX4_join 5 (some .long), Cond.constantLong RX4 217 (-1), Cond.methodLink RX0 74 yX0_flip, Cond.instanceMethod yX0_flip, Cond.selects RX0 yX0_flip yX0_flip, Cond.code yX0_flip cX0_flip 4 none]
def wsX0_fillWith_r2 : List Cond := [Cond.static yX4_isNumber, Cond.code yX4_isNumber cX4_isNumber 1 (some .boolean), Cond.methodLink RX0 58 yX0_holds, Cond.instanceMethod yX0_holds, Cond.selects RX0 yX0_holds yX0_holds, Cond.code yX0_holds cX0_holds 2 (some .boolean), Cond.methodLink RX0 61 yX0_neighboursInBay, Cond.instanceMethod yX0_neighboursInBay, Cond.selects RX0 yX0_neighboursInBay yX0_neighboursInBay, Cond.code yX0_neighboursInBay cX0_neighboursInBay 4 (some .int), Cond.methodLink RX0 88 yX0_bestKind, Cond.instanceMethod yX0_bestKind, Cond.selects RX0 yX0_bestKind yX0_bestKind, Cond.code yX0_bestKind cX0_bestKind 3 (some .int), Cond.methodLink RX0 84 yX0_canHold, Cond.instanceMethod yX0_canHold, Cond.selects RX0 yX0_canHold yX0_canHold, Cond.code yX0_canHold cX0_canHold 3 (some .boolean), Cond.methodLink RX0 91 yX0_unitsAs, Cond.instanceMethod yX0_unitsAs, Cond.selects RX0 yX0_unitsAs yX0_unitsAs, Cond.code yX0_unitsAs cX0_unitsAs 3 (some .int)]
def wsX0_fillWith : List Cond := .code yX0_fillWith cX0_fillWith 8 none :: ((wsX0_fillWith_r1 ++ wsX0_fillWith_r2) ++ wsX00)
def wsX0_numbers : List Cond := .code yX0_numbers cX0_numbers 3 (some .int) :: ([.fieldLink RX0 19 "BoatSets$Fleet" "sizes" "[I"] ++ wsX00)
def wsX0_boatsOfKind : List Cond := .code yX0_boatsOfKind cX0_boatsOfKind 4 (some .int) :: ([.fieldLink RX0 19 "BoatSets$Fleet" "sizes" "[I", .fieldLink RX0 15 "BoatSets$Fleet" "kinds" "[I"] ++ wsX00)
def wsX0_boats : List Cond := .code yX0_boats cX0_boats 1 (some .int) :: ([.methodLink RX0 101 yX0_boatsOfKind, .instanceMethod yX0_boatsOfKind, .selects RX0 yX0_boatsOfKind yX0_boatsOfKind, .initialized RX0, .code yX0_boatsOfKind cX0_boatsOfKind 4 (some .int), .fieldLink RX0 19 "BoatSets$Fleet" "sizes" "[I", .fieldLink RX0 15 "BoatSets$Fleet" "kinds" "[I"] ++ wsX00)
def wsX0_units : List Cond := .code yX0_units cX0_units 3 (some .int) :: ([.fieldLink RX0 15 "BoatSets$Fleet" "kinds" "[I", .methodLink RX0 91 yX0_unitsAs, .instanceMethod yX0_unitsAs, .selects RX0 yX0_unitsAs yX0_unitsAs, .initialized RX0, .code yX0_unitsAs cX0_unitsAs 3 (some .int), .fieldLink RX0 19 "BoatSets$Fleet" "sizes" "[I", .fieldLink RX0 22 "BoatSets$Fleet" "runs" "[I"] ++ wsX00)
def wsX0_bestUnits : List Cond := .code yX0_bestUnits cX0_bestUnits 3 (some .int) :: ([.methodLink RX0 88 yX0_bestKind, .instanceMethod yX0_bestKind, .selects RX0 yX0_bestKind yX0_bestKind, .initialized RX0, .code yX0_bestKind cX0_bestKind 3 (some .int), .methodLink RX0 84 yX0_canHold, .instanceMethod yX0_canHold, .selects RX0 yX0_canHold yX0_canHold, .code yX0_canHold cX0_canHold 3 (some .boolean), .fieldLink RX0 19 "BoatSets$Fleet" "sizes" "[I", .fieldLink RX0 22 "BoatSets$Fleet" "runs" "[I", .methodLink RX0 91 yX0_unitsAs, .instanceMethod yX0_unitsAs, .selects RX0 yX0_unitsAs yX0_unitsAs, .code yX0_unitsAs cX0_unitsAs 3 (some .int)] ++ wsX00)
def wsX0_allRuns : List Cond := .code yX0_allRuns cX0_allRuns 3 (some .int) :: ([.fieldLink RX0 22 "BoatSets$Fleet" "runs" "[I"] ++ wsX00)
def wsJ13_bitCount_95d88 : List Cond := .code yJ13_bitCount_95d88 cJ13_bitCount_95d88 2 (some .int) :: ([.constantLong RJ13 314 (6148914691236517205), .constantLong RJ13 316 (3689348814741910323), .constantLong RJ13 318 (1085102592571150095)])
def wsX0_numbersBelow : List Cond := .code yX0_numbersBelow cX0_numbersBelow 6 (some .int) :: ([.fieldLink RX0 9 "BoatSets$Fleet" "words" "[J", .static yX4_isNumber, .initialized RX4, .code yX4_isNumber cX4_isNumber 1 (some .boolean), .methodLink RX0 104 yJ13_bitCount_95d88, .static yJ13_bitCount_95d88, .initialized RJ13, .code yJ13_bitCount_95d88 cJ13_bitCount_95d88 2 (some .int), .constantLong RJ13 314 (6148914691236517205), .constantLong RJ13 316 (3689348814741910323), .constantLong RJ13 318 (1085102592571150095)] ++ wsX00)
def wsX0_placeOfBit : List Cond := .code yX0_placeOfBit cX0_placeOfBit 6 (some .int) :: ([.methodLink RX0 104 yJ13_bitCount_95d88, .static yJ13_bitCount_95d88, .initialized RJ13, .code yJ13_bitCount_95d88 cJ13_bitCount_95d88 2 (some .int), .constantLong RJ13 314 (6148914691236517205), .constantLong RJ13 316 (3689348814741910323), .constantLong RJ13 318 (1085102592571150095)])
def wsX0_numberAt : List Cond := .code yX0_numberAt cX0_numberAt 5 (some .int) :: ([.fieldLink RX0 9 "BoatSets$Fleet" "words" "[J", .methodLink RX0 104 yJ13_bitCount_95d88, .static yJ13_bitCount_95d88, .initialized RJ13, .code yJ13_bitCount_95d88 cJ13_bitCount_95d88 2 (some .int), .constantLong RJ13 314 (6148914691236517205), .constantLong RJ13 316 (3689348814741910323), .constantLong RJ13 318 (1085102592571150095), .methodLink RX0 110 yX0_placeOfBit, .static yX0_placeOfBit, .initialized RX0, .code yX0_placeOfBit cX0_placeOfBit 6 (some .int)] ++ wsX00)
def wsX0_firstFrom : List Cond := .code yX0_firstFrom cX0_firstFrom 2 (some .int) :: ([.methodLink RX0 114 yX0_numbersBelow, .instanceMethod yX0_numbersBelow, .selects RX0 yX0_numbersBelow yX0_numbersBelow, .initialized RX0, .code yX0_numbersBelow cX0_numbersBelow 6 (some .int), .fieldLink RX0 9 "BoatSets$Fleet" "words" "[J", .static yX4_isNumber, .initialized RX4, .code yX4_isNumber cX4_isNumber 1 (some .boolean), .methodLink RX0 104 yJ13_bitCount_95d88, .static yJ13_bitCount_95d88, .initialized RJ13, .code yJ13_bitCount_95d88 cJ13_bitCount_95d88 2 (some .int), .constantLong RJ13 314 (6148914691236517205), .constantLong RJ13 316 (3689348814741910323), .constantLong RJ13 318 (1085102592571150095), .methodLink RX0 117 yX0_numberAt, .instanceMethod yX0_numberAt, .selects RX0 yX0_numberAt yX0_numberAt, .code yX0_numberAt cX0_numberAt 5 (some .int), .methodLink RX0 110 yX0_placeOfBit, .static yX0_placeOfBit, .code yX0_placeOfBit cX0_placeOfBit 6 (some .int)] ++ wsX00)
def wsX0_firstGap : List Cond := .code yX0_firstGap cX0_firstGap 4 (some .int) :: ([.methodLink RX0 58 yX0_holds, .instanceMethod yX0_holds, .selects RX0 yX0_holds yX0_holds, .initialized RX0, .code yX0_holds cX0_holds 2 (some .boolean), .fieldLink RX0 9 "BoatSets$Fleet" "words" "[J", .static yX4_isNumber, .initialized RX4, .code yX4_isNumber cX4_isNumber 1 (some .boolean)] ++ wsX00)
def wsX1_init : List Cond := .code yX1_init cX1_init 2 none :: ([.methodLink RX1 3 objectInit, .instanceMethod objectInit, .code objectInit ⟨#[0xb1]⟩ 1 none, .classLink RX1 9 RX0, .fieldLink RX1 11 "BoatSets$Harbour" "fleets" "[LBoatSets$Fleet;", .instantiable RX0 7, .initialized RX0, .methodLink RX1 17 yX0_init, .instanceMethod yX0_init, .code yX0_init cX0_init 1 none, .methodLink RX0 3 objectInit, .arrayClass .long, .fieldLink RX0 9 "BoatSets$Fleet" "words" "[J", .arrayClass .int, .fieldLink RX0 15 "BoatSets$Fleet" "kinds" "[I", .fieldLink RX0 19 "BoatSets$Fleet" "sizes" "[I", .fieldLink RX0 22 "BoatSets$Fleet" "runs" "[I"] ++ wsX10 ++ wsX00)
def wsX1_copyFrom : List Cond := .code yX1_copyFrom cX1_copyFrom 3 none :: ([.fieldLink RX1 18 "BoatSets$Harbour" "sets" "I", .fieldLink RX1 11 "BoatSets$Harbour" "fleets" "[LBoatSets$Fleet;", .methodLink RX1 22 yX0_copyFrom, .instanceMethod yX0_copyFrom, .selects RX0 yX0_copyFrom yX0_copyFrom, .initialized RX0, .code yX0_copyFrom cX0_copyFrom 2 none, .fieldLink RX0 9 "BoatSets$Fleet" "words" "[J", .methodLink RX0 48 arraycopyName, .native arraycopyName, .static arraycopyName, .initialized "java/lang/System", .fieldLink RX0 15 "BoatSets$Fleet" "kinds" "[I", .fieldLink RX0 19 "BoatSets$Fleet" "sizes" "[I", .fieldLink RX0 22 "BoatSets$Fleet" "runs" "[I", .fieldLink RX0 28 "BoatSets$Fleet" "purse" "I", .fieldLink RX0 32 "BoatSets$Fleet" "paid" "I", .fieldLink RX0 35 "BoatSets$Fleet" "atSea" "Z"] ++ wsX10 ++ wsX00)
def wsX1_open_r1 : List Cond := [Cond.fieldLink RX1 18 "BoatSets$Harbour" "sets" "I", Cond.fieldLink RX1 11 "BoatSets$Harbour" "fleets" "[LBoatSets$Fleet;", Cond.methodLink RX1 26 yX0_begin, Cond.instanceMethod yX0_begin, Cond.selects RX0 yX0_begin yX0_begin, Cond.initialized RX0, Cond.code yX0_begin cX0_begin 2 none, Cond.fieldLink RX0 28 "BoatSets$Fleet" "purse" "I", Cond.fieldLink RX0 32 "BoatSets$Fleet" "paid" "I", Cond.fieldLink RX0 35 "BoatSets$Fleet" "atSea" "Z", Cond.methodLink RX0 25 yX0_clearNumbers, Cond.instanceMethod yX0_clearNumbers, Cond.selects RX0 yX0_clearNumbers yX0_clearNumbers, Cond.code yX0_clearNumbers cX0_clearNumbers 1 none, Cond.fieldLink RX0 9 "BoatSets$Fleet" "words" "[J", Cond.fieldLink RX0 15 "BoatSets$Fleet" "kinds" "[I", Cond.fieldLink RX0 19 "BoatSets$Fleet" "sizes" "[I", Cond.fieldLink RX0 22 "BoatSets$Fleet" "runs" "[I", Cond.methodLink RX0 39 yJ7_fill_d0a16, Cond.static yJ7_fill_d0a16, Cond.initialized RJ7, Cond.code yJ7_fill_d0a16 cJ7_fill_d0a16 5 none, Cond.methodLink RX0 45 yJ7_fill_53178, Cond.static yJ7_fill_53178]
def wsX1_open_r2 : List Cond := [Cond.code yJ7_fill_53178 cJ7_fill_53178 4 none]
def wsX1_open : List Cond := .code yX1_open cX1_open 2 (some .int) :: ((wsX1_open_r1 ++ wsX1_open_r2) ++ wsX10 ++ wsX00)
def wsX1_setsAtSea : List Cond := .code yX1_setsAtSea cX1_setsAtSea 3 (some .int) :: ([.fieldLink RX1 18 "BoatSets$Harbour" "sets" "I", .fieldLink RX1 11 "BoatSets$Harbour" "fleets" "[LBoatSets$Fleet;", .fieldLink RX1 30 "BoatSets$Fleet" "atSea" "Z"] ++ wsX10 ++ wsX00)
def wsX1_boatsOfKind : List Cond := .code yX1_boatsOfKind cX1_boatsOfKind 4 (some .int) :: ([.fieldLink RX1 18 "BoatSets$Harbour" "sets" "I", .fieldLink RX1 11 "BoatSets$Harbour" "fleets" "[LBoatSets$Fleet;", .methodLink RX1 34 yX0_boatsOfKind, .instanceMethod yX0_boatsOfKind, .selects RX0 yX0_boatsOfKind yX0_boatsOfKind, .initialized RX0, .code yX0_boatsOfKind cX0_boatsOfKind 4 (some .int), .fieldLink RX0 19 "BoatSets$Fleet" "sizes" "[I", .fieldLink RX0 15 "BoatSets$Fleet" "kinds" "[I"] ++ wsX10 ++ wsX00)
def wsX1_units : List Cond := .code yX1_units cX1_units 3 (some .int) :: ([.fieldLink RX1 18 "BoatSets$Harbour" "sets" "I", .fieldLink RX1 11 "BoatSets$Harbour" "fleets" "[LBoatSets$Fleet;", .methodLink RX1 38 yX0_units, .instanceMethod yX0_units, .selects RX0 yX0_units yX0_units, .initialized RX0, .code yX0_units cX0_units 3 (some .int), .fieldLink RX0 15 "BoatSets$Fleet" "kinds" "[I", .methodLink RX0 91 yX0_unitsAs, .instanceMethod yX0_unitsAs, .selects RX0 yX0_unitsAs yX0_unitsAs, .code yX0_unitsAs cX0_unitsAs 3 (some .int), .fieldLink RX0 19 "BoatSets$Fleet" "sizes" "[I", .fieldLink RX0 22 "BoatSets$Fleet" "runs" "[I"] ++ wsX10 ++ wsX00)
def wsX1_numbers : List Cond := .code yX1_numbers cX1_numbers 3 (some .int) :: ([.fieldLink RX1 18 "BoatSets$Harbour" "sets" "I", .fieldLink RX1 11 "BoatSets$Harbour" "fleets" "[LBoatSets$Fleet;", .methodLink RX1 42 yX0_numbers, .instanceMethod yX0_numbers, .selects RX0 yX0_numbers yX0_numbers, .initialized RX0, .code yX0_numbers cX0_numbers 3 (some .int), .fieldLink RX0 19 "BoatSets$Fleet" "sizes" "[I"] ++ wsX10 ++ wsX00)
def wsX1_tollsPaid : List Cond := .code yX1_tollsPaid cX1_tollsPaid 3 (some .int) :: ([.fieldLink RX1 18 "BoatSets$Harbour" "sets" "I", .fieldLink RX1 11 "BoatSets$Harbour" "fleets" "[LBoatSets$Fleet;", .fieldLink RX1 45 "BoatSets$Fleet" "paid" "I"] ++ wsX10 ++ wsX00)
def wsX1_heldByAny : List Cond := .code yX1_heldByAny cX1_heldByAny 5 (some .long) :: ([.fieldLink RX1 18 "BoatSets$Harbour" "sets" "I", .fieldLink RX1 11 "BoatSets$Harbour" "fleets" "[LBoatSets$Fleet;", .fieldLink RX1 58 "BoatSets$Fleet" "words" "[J"] ++ wsX10 ++ wsX00)
def wsX1_differentNumbers : List Cond := .code yX1_differentNumbers cX1_differentNumbers 3 (some .int) :: ([.methodLink RX1 48 yX1_heldByAny, .instanceMethod yX1_heldByAny, .selects RX1 yX1_heldByAny yX1_heldByAny, .initialized RX1, .code yX1_heldByAny cX1_heldByAny 5 (some .long), .fieldLink RX1 18 "BoatSets$Harbour" "sets" "I", .fieldLink RX1 11 "BoatSets$Harbour" "fleets" "[LBoatSets$Fleet;", .fieldLink RX1 58 "BoatSets$Fleet" "words" "[J", .methodLink RX1 52 yJ13_bitCount_95d88, .static yJ13_bitCount_95d88, .initialized RJ13, .code yJ13_bitCount_95d88 cJ13_bitCount_95d88 2 (some .int), .constantLong RJ13 314 (6148914691236517205), .constantLong RJ13 316 (3689348814741910323), .constantLong RJ13 318 (1085102592571150095)] ++ wsX10 ++ wsX00)
def wsX1_holders : List Cond := .code yX1_holders cX1_holders 4 (some .int) :: ([.fieldLink RX1 18 "BoatSets$Harbour" "sets" "I", .fieldLink RX1 11 "BoatSets$Harbour" "fleets" "[LBoatSets$Fleet;", .methodLink RX1 62 yX0_holds, .instanceMethod yX0_holds, .selects RX0 yX0_holds yX0_holds, .initialized RX0, .code yX0_holds cX0_holds 2 (some .boolean), .fieldLink RX0 9 "BoatSets$Fleet" "words" "[J", .static yX4_isNumber, .initialized RX4, .code yX4_isNumber cX4_isNumber 1 (some .boolean)] ++ wsX10 ++ wsX00)
def wsX1_mostHeld : List Cond := .code yX1_mostHeld cX1_mostHeld 8 (some .int) :: ([.methodLink RX1 48 yX1_heldByAny, .instanceMethod yX1_heldByAny, .selects RX1 yX1_heldByAny yX1_heldByAny, .initialized RX1, .code yX1_heldByAny cX1_heldByAny 5 (some .long), .fieldLink RX1 18 "BoatSets$Harbour" "sets" "I", .fieldLink RX1 11 "BoatSets$Harbour" "fleets" "[LBoatSets$Fleet;", .fieldLink RX1 58 "BoatSets$Fleet" "words" "[J", .methodLink RX1 66 yX1_holders, .instanceMethod yX1_holders, .selects RX1 yX1_holders yX1_holders, .code yX1_holders cX1_holders 4 (some .int), .methodLink RX1 62 yX0_holds, .instanceMethod yX0_holds, .selects RX0 yX0_holds yX0_holds, .initialized RX0, .code yX0_holds cX0_holds 2 (some .boolean), .fieldLink RX0 9 "BoatSets$Fleet" "words" "[J", .static yX4_isNumber, .initialized RX4, .code yX4_isNumber cX4_isNumber 1 (some .boolean)] ++ wsX10 ++ wsX00)
def wsX1_numberOfAll : List Cond := .code yX1_numberOfAll cX1_numberOfAll 7 (some .int) :: ([.methodLink RX1 48 yX1_heldByAny, .instanceMethod yX1_heldByAny, .selects RX1 yX1_heldByAny yX1_heldByAny, .initialized RX1, .code yX1_heldByAny cX1_heldByAny 5 (some .long), .fieldLink RX1 18 "BoatSets$Harbour" "sets" "I", .fieldLink RX1 11 "BoatSets$Harbour" "fleets" "[LBoatSets$Fleet;", .fieldLink RX1 58 "BoatSets$Fleet" "words" "[J", .methodLink RX1 66 yX1_holders, .instanceMethod yX1_holders, .selects RX1 yX1_holders yX1_holders, .code yX1_holders cX1_holders 4 (some .int), .methodLink RX1 62 yX0_holds, .instanceMethod yX0_holds, .selects RX0 yX0_holds yX0_holds, .initialized RX0, .code yX0_holds cX0_holds 2 (some .boolean), .fieldLink RX0 9 "BoatSets$Fleet" "words" "[J", .static yX4_isNumber, .initialized RX4, .code yX4_isNumber cX4_isNumber 1 (some .boolean)] ++ wsX10 ++ wsX00)
def wsX2_init_r1 : List Cond := [Cond.methodLink RX2 3 objectInit, Cond.instanceMethod objectInit, Cond.code objectInit ⟨#[0xb1]⟩ 1 none, Cond.classLink RX2 9 RX1, Cond.fieldLink RX2 11 "BoatSets$History" "states" "[LBoatSets$Harbour;", Cond.instantiable RX1 2, Cond.initialized RX1, Cond.methodLink RX2 17 yX1_init, Cond.instanceMethod yX1_init, Cond.code yX1_init cX1_init 2 none, Cond.methodLink RX1 3 objectInit, Cond.classLink RX1 9 RX0, Cond.fieldLink RX1 11 "BoatSets$Harbour" "fleets" "[LBoatSets$Fleet;", Cond.instantiable RX0 7, Cond.initialized RX0, Cond.methodLink RX1 17 yX0_init, Cond.instanceMethod yX0_init, Cond.code yX0_init cX0_init 1 none, Cond.methodLink RX0 3 objectInit, Cond.arrayClass .long, Cond.fieldLink RX0 9 "BoatSets$Fleet" "words" "[J", Cond.arrayClass .int, Cond.fieldLink RX0 15 "BoatSets$Fleet" "kinds" "[I", Cond.fieldLink RX0 19 "BoatSets$Fleet" "sizes" "[I"]
def wsX2_init_r2 : List Cond := [Cond.fieldLink RX0 22 "BoatSets$Fleet" "runs" "[I"]
def wsX2_init : List Cond := .code yX2_init cX2_init 2 none :: ((wsX2_init_r1 ++ wsX2_init_r2) ++ wsX20 ++ wsX10 ++ wsX00)
def wsX2_dropOldest : List Cond := .code yX2_dropOldest cX2_dropOldest 3 none :: ([.fieldLink RX2 11 "BoatSets$History" "states" "[LBoatSets$Harbour;", .fieldLink RX2 18 "BoatSets$History" "size" "I"] ++ wsX20)
def wsX2_push_r1 : List Cond := [Cond.fieldLink RX2 18 "BoatSets$History" "size" "I", Cond.fieldLink RX2 11 "BoatSets$History" "states" "[LBoatSets$Harbour;", Cond.methodLink RX2 22 yX2_dropOldest, Cond.instanceMethod yX2_dropOldest, Cond.selects RX2 yX2_dropOldest yX2_dropOldest, Cond.initialized RX2, Cond.code yX2_dropOldest cX2_dropOldest 3 none, Cond.methodLink RX2 25 yX1_copyFrom, Cond.instanceMethod yX1_copyFrom, Cond.selects RX1 yX1_copyFrom yX1_copyFrom, Cond.initialized RX1, Cond.code yX1_copyFrom cX1_copyFrom 3 none, Cond.fieldLink RX1 18 "BoatSets$Harbour" "sets" "I", Cond.fieldLink RX1 11 "BoatSets$Harbour" "fleets" "[LBoatSets$Fleet;", Cond.methodLink RX1 22 yX0_copyFrom, Cond.instanceMethod yX0_copyFrom, Cond.selects RX0 yX0_copyFrom yX0_copyFrom, Cond.initialized RX0, Cond.code yX0_copyFrom cX0_copyFrom 2 none, Cond.fieldLink RX0 9 "BoatSets$Fleet" "words" "[J", Cond.methodLink RX0 48 arraycopyName, Cond.native arraycopyName, Cond.static arraycopyName, Cond.initialized "java/lang/System"]
def wsX2_push_r2 : List Cond := [Cond.fieldLink RX0 15 "BoatSets$Fleet" "kinds" "[I", Cond.fieldLink RX0 19 "BoatSets$Fleet" "sizes" "[I", Cond.fieldLink RX0 22 "BoatSets$Fleet" "runs" "[I", Cond.fieldLink RX0 28 "BoatSets$Fleet" "purse" "I", Cond.fieldLink RX0 32 "BoatSets$Fleet" "paid" "I", Cond.fieldLink RX0 35 "BoatSets$Fleet" "atSea" "Z"]
def wsX2_push : List Cond := .code yX2_push cX2_push 2 none :: ((wsX2_push_r1 ++ wsX2_push_r2) ++ wsX20 ++ wsX10 ++ wsX00)
def wsX2_popInto_r1 : List Cond := [Cond.fieldLink RX2 18 "BoatSets$History" "size" "I", Cond.fieldLink RX2 11 "BoatSets$History" "states" "[LBoatSets$Harbour;", Cond.methodLink RX2 25 yX1_copyFrom, Cond.instanceMethod yX1_copyFrom, Cond.selects RX1 yX1_copyFrom yX1_copyFrom, Cond.initialized RX1, Cond.code yX1_copyFrom cX1_copyFrom 3 none, Cond.fieldLink RX1 18 "BoatSets$Harbour" "sets" "I", Cond.fieldLink RX1 11 "BoatSets$Harbour" "fleets" "[LBoatSets$Fleet;", Cond.methodLink RX1 22 yX0_copyFrom, Cond.instanceMethod yX0_copyFrom, Cond.selects RX0 yX0_copyFrom yX0_copyFrom, Cond.initialized RX0, Cond.code yX0_copyFrom cX0_copyFrom 2 none, Cond.fieldLink RX0 9 "BoatSets$Fleet" "words" "[J", Cond.methodLink RX0 48 arraycopyName, Cond.native arraycopyName, Cond.static arraycopyName, Cond.initialized "java/lang/System", Cond.fieldLink RX0 15 "BoatSets$Fleet" "kinds" "[I", Cond.fieldLink RX0 19 "BoatSets$Fleet" "sizes" "[I", Cond.fieldLink RX0 22 "BoatSets$Fleet" "runs" "[I", Cond.fieldLink RX0 28 "BoatSets$Fleet" "purse" "I", Cond.fieldLink RX0 32 "BoatSets$Fleet" "paid" "I"]
def wsX2_popInto_r2 : List Cond := [Cond.fieldLink RX0 35 "BoatSets$Fleet" "atSea" "Z"]
def wsX2_popInto : List Cond := .code yX2_popInto cX2_popInto 2 none :: ((wsX2_popInto_r1 ++ wsX2_popInto_r2) ++ wsX20 ++ wsX10 ++ wsX00)
def wsX3_init : List Cond := .code yX3_init cX3_init 1 none :: ([.methodLink RX3 3 objectInit, .instanceMethod objectInit, .code objectInit ⟨#[0xb1]⟩ 1 none, .arrayClass .char, .fieldLink RX3 9 "BoatSets$RangeText" "characters" "[C", .arrayClass .int, .fieldLink RX3 15 "BoatSets$RangeText" "firsts" "[I", .fieldLink RX3 19 "BoatSets$RangeText" "lasts" "[I"] ++ wsX30)
def wsX3_noteRange : List Cond := .code yX3_noteRange cX3_noteRange 3 none :: ([.fieldLink RX3 22 "BoatSets$RangeText" "ranges" "I", .fieldLink RX3 15 "BoatSets$RangeText" "firsts" "[I", .fieldLink RX3 19 "BoatSets$RangeText" "lasts" "[I"] ++ wsX30)
def wsX3_read : List Cond := .code yX3_read cX3_read 7 (some .int) :: ([.fieldLink RX3 22 "BoatSets$RangeText" "ranges" "I", .fieldLink RX3 26 "BoatSets$RangeText" "length" "I", .fieldLink RX3 9 "BoatSets$RangeText" "characters" "[C", .methodLink RX3 29 yX3_noteRange, .instanceMethod yX3_noteRange, .selects RX3 yX3_noteRange yX3_noteRange, .initialized RX3, .code yX3_noteRange cX3_noteRange 3 none, .fieldLink RX3 15 "BoatSets$RangeText" "firsts" "[I", .fieldLink RX3 19 "BoatSets$RangeText" "lasts" "[I"] ++ wsX30)
def wsX3_hasGoodValues : List Cond := .code yX3_hasGoodValues cX3_hasGoodValues 2 (some .boolean) :: ([.fieldLink RX3 22 "BoatSets$RangeText" "ranges" "I", .fieldLink RX3 15 "BoatSets$RangeText" "firsts" "[I", .fieldLink RX3 19 "BoatSets$RangeText" "lasts" "[I", .static yX4_isNumber, .initialized RX4, .code yX4_isNumber cX4_isNumber 1 (some .boolean)] ++ wsX30)
def wsX4_init_r1 : List Cond := [Cond.methodLink RX4 1 objectInit, Cond.instanceMethod objectInit, Cond.code objectInit ⟨#[0xb1]⟩ 1 none, Cond.classLink RX4 7 RX1, Cond.instantiable RX1 2, Cond.initialized RX1, Cond.fieldLink RX4 10 "BoatSets" "now" "LBoatSets$Harbour;", Cond.fieldLink RX4 16 "BoatSets" "snapshot" "LBoatSets$Harbour;", Cond.classLink RX4 19 RX2, Cond.instantiable RX2 2, Cond.initialized RX2, Cond.fieldLink RX4 22 "BoatSets" "past" "LBoatSets$History;", Cond.classLink RX4 26 RX3, Cond.instantiable RX3 5, Cond.initialized RX3, Cond.fieldLink RX4 29 "BoatSets" "text" "LBoatSets$RangeText;", Cond.classLink RX4 33 RX0, Cond.instantiable RX0 7, Cond.initialized RX0, Cond.fieldLink RX4 36 "BoatSets" "trial" "LBoatSets$Fleet;", Cond.fieldLink RX4 40 "BoatSets" "hasSnapshot" "Z", Cond.methodLink RX4 9 yX1_init, Cond.instanceMethod yX1_init, Cond.code yX1_init cX1_init 2 none]
def wsX4_init_r2 : List Cond := [Cond.methodLink RX1 3 objectInit, Cond.classLink RX1 9 RX0, Cond.fieldLink RX1 11 "BoatSets$Harbour" "fleets" "[LBoatSets$Fleet;", Cond.methodLink RX1 17 yX0_init, Cond.instanceMethod yX0_init, Cond.code yX0_init cX0_init 1 none, Cond.methodLink RX0 3 objectInit, Cond.arrayClass .long, Cond.fieldLink RX0 9 "BoatSets$Fleet" "words" "[J", Cond.arrayClass .int, Cond.fieldLink RX0 15 "BoatSets$Fleet" "kinds" "[I", Cond.fieldLink RX0 19 "BoatSets$Fleet" "sizes" "[I", Cond.fieldLink RX0 22 "BoatSets$Fleet" "runs" "[I", Cond.methodLink RX4 21 yX2_init, Cond.instanceMethod yX2_init, Cond.code yX2_init cX2_init 2 none, Cond.methodLink RX2 3 objectInit, Cond.classLink RX2 9 RX1, Cond.fieldLink RX2 11 "BoatSets$History" "states" "[LBoatSets$Harbour;", Cond.methodLink RX2 17 yX1_init, Cond.methodLink RX4 28 yX3_init, Cond.instanceMethod yX3_init, Cond.code yX3_init cX3_init 1 none, Cond.methodLink RX3 3 objectInit]
def wsX4_init_r3 : List Cond := [Cond.arrayClass .char, Cond.fieldLink RX3 9 "BoatSets$RangeText" "characters" "[C", Cond.fieldLink RX3 15 "BoatSets$RangeText" "firsts" "[I", Cond.fieldLink RX3 19 "BoatSets$RangeText" "lasts" "[I", Cond.methodLink RX4 35 yX0_init]
def wsX4_init : List Cond := .code yX4_init cX4_init 1 none :: ((wsX4_init_r1 ++ (wsX4_init_r2 ++ wsX4_init_r3)) ++ wsX10 ++ wsX40 ++ wsX20 ++ wsX30 ++ wsX00)
def wsX4_newSet_r1 : List Cond := [Cond.fieldLink RX4 10 "BoatSets" "now" "LBoatSets$Harbour;", Cond.fieldLink RX4 44 "BoatSets$Harbour" "sets" "I", Cond.fieldLink RX4 22 "BoatSets" "past" "LBoatSets$History;", Cond.methodLink RX4 48 yX2_push, Cond.instanceMethod yX2_push, Cond.selects RX2 yX2_push yX2_push, Cond.initialized RX2, Cond.code yX2_push cX2_push 2 none, Cond.fieldLink RX2 18 "BoatSets$History" "size" "I", Cond.fieldLink RX2 11 "BoatSets$History" "states" "[LBoatSets$Harbour;", Cond.methodLink RX2 22 yX2_dropOldest, Cond.instanceMethod yX2_dropOldest, Cond.selects RX2 yX2_dropOldest yX2_dropOldest, Cond.code yX2_dropOldest cX2_dropOldest 3 none, Cond.methodLink RX2 25 yX1_copyFrom, Cond.instanceMethod yX1_copyFrom, Cond.selects RX1 yX1_copyFrom yX1_copyFrom, Cond.initialized RX1, Cond.code yX1_copyFrom cX1_copyFrom 3 none, Cond.fieldLink RX1 18 "BoatSets$Harbour" "sets" "I", Cond.fieldLink RX1 11 "BoatSets$Harbour" "fleets" "[LBoatSets$Fleet;", Cond.methodLink RX1 22 yX0_copyFrom, Cond.instanceMethod yX0_copyFrom, Cond.selects RX0 yX0_copyFrom yX0_copyFrom]
def wsX4_newSet_r2 : List Cond := [Cond.initialized RX0, Cond.code yX0_copyFrom cX0_copyFrom 2 none, Cond.fieldLink RX0 9 "BoatSets$Fleet" "words" "[J", Cond.methodLink RX0 48 arraycopyName, Cond.native arraycopyName, Cond.static arraycopyName, Cond.initialized "java/lang/System", Cond.fieldLink RX0 15 "BoatSets$Fleet" "kinds" "[I", Cond.fieldLink RX0 19 "BoatSets$Fleet" "sizes" "[I", Cond.fieldLink RX0 22 "BoatSets$Fleet" "runs" "[I", Cond.fieldLink RX0 28 "BoatSets$Fleet" "purse" "I", Cond.fieldLink RX0 32 "BoatSets$Fleet" "paid" "I", Cond.fieldLink RX0 35 "BoatSets$Fleet" "atSea" "Z", Cond.methodLink RX4 52 yX1_open, Cond.instanceMethod yX1_open, Cond.selects RX1 yX1_open yX1_open, Cond.code yX1_open cX1_open 2 (some .int), Cond.methodLink RX1 26 yX0_begin, Cond.instanceMethod yX0_begin, Cond.selects RX0 yX0_begin yX0_begin, Cond.code yX0_begin cX0_begin 2 none, Cond.methodLink RX0 25 yX0_clearNumbers, Cond.instanceMethod yX0_clearNumbers, Cond.selects RX0 yX0_clearNumbers yX0_clearNumbers]
def wsX4_newSet_r3 : List Cond := [Cond.code yX0_clearNumbers cX0_clearNumbers 1 none, Cond.methodLink RX0 39 yJ7_fill_d0a16, Cond.static yJ7_fill_d0a16, Cond.initialized RJ7, Cond.code yJ7_fill_d0a16 cJ7_fill_d0a16 5 none, Cond.methodLink RX0 45 yJ7_fill_53178, Cond.static yJ7_fill_53178, Cond.code yJ7_fill_53178 cJ7_fill_53178 4 none]
def wsX4_newSet : List Cond := .code yX4_newSet cX4_newSet 2 (some .int) :: ((wsX4_newSet_r1 ++ (wsX4_newSet_r2 ++ wsX4_newSet_r3)) ++ wsX40 ++ wsX10 ++ wsX20 ++ wsX00)
def wsX4_isSet : List Cond := .code yX4_isSet cX4_isSet 2 (some .boolean) :: ([.fieldLink RX4 10 "BoatSets" "now" "LBoatSets$Harbour;", .fieldLink RX4 44 "BoatSets$Harbour" "sets" "I"] ++ wsX40 ++ wsX10)
def wsX4_pay_r1 : List Cond := [Cond.fieldLink RX4 10 "BoatSets" "now" "LBoatSets$Harbour;", Cond.fieldLink RX4 60 "BoatSets$Harbour" "fleets" "[LBoatSets$Fleet;", Cond.fieldLink RX4 64 "BoatSets$Fleet" "purse" "I", Cond.fieldLink RX4 22 "BoatSets" "past" "LBoatSets$History;", Cond.methodLink RX4 56 yX4_isSet, Cond.instanceMethod yX4_isSet, Cond.selects RX4 yX4_isSet yX4_isSet, Cond.initialized RX4, Cond.code yX4_isSet cX4_isSet 2 (some .boolean), Cond.fieldLink RX4 44 "BoatSets$Harbour" "sets" "I", Cond.methodLink RX4 48 yX2_push, Cond.instanceMethod yX2_push, Cond.selects RX2 yX2_push yX2_push, Cond.initialized RX2, Cond.code yX2_push cX2_push 2 none, Cond.fieldLink RX2 18 "BoatSets$History" "size" "I", Cond.fieldLink RX2 11 "BoatSets$History" "states" "[LBoatSets$Harbour;", Cond.methodLink RX2 22 yX2_dropOldest, Cond.instanceMethod yX2_dropOldest, Cond.selects RX2 yX2_dropOldest yX2_dropOldest, Cond.code yX2_dropOldest cX2_dropOldest 3 none, Cond.methodLink RX2 25 yX1_copyFrom, Cond.instanceMethod yX1_copyFrom, Cond.selects RX1 yX1_copyFrom yX1_copyFrom]
def wsX4_pay_r2 : List Cond := [Cond.initialized RX1, Cond.code yX1_copyFrom cX1_copyFrom 3 none, Cond.fieldLink RX1 18 "BoatSets$Harbour" "sets" "I", Cond.fieldLink RX1 11 "BoatSets$Harbour" "fleets" "[LBoatSets$Fleet;", Cond.methodLink RX1 22 yX0_copyFrom, Cond.instanceMethod yX0_copyFrom, Cond.selects RX0 yX0_copyFrom yX0_copyFrom, Cond.initialized RX0, Cond.code yX0_copyFrom cX0_copyFrom 2 none, Cond.fieldLink RX0 9 "BoatSets$Fleet" "words" "[J", Cond.methodLink RX0 48 arraycopyName, Cond.native arraycopyName, Cond.static arraycopyName, Cond.initialized "java/lang/System", Cond.fieldLink RX0 15 "BoatSets$Fleet" "kinds" "[I", Cond.fieldLink RX0 19 "BoatSets$Fleet" "sizes" "[I", Cond.fieldLink RX0 22 "BoatSets$Fleet" "runs" "[I", Cond.fieldLink RX0 28 "BoatSets$Fleet" "purse" "I", Cond.fieldLink RX0 32 "BoatSets$Fleet" "paid" "I", Cond.fieldLink RX0 35 "BoatSets$Fleet" "atSea" "Z"]
def wsX4_pay : List Cond := .code yX4_pay cX4_pay 4 (some .int) :: ((wsX4_pay_r1 ++ wsX4_pay_r2) ++ wsX40 ++ wsX10 ++ wsX00 ++ wsX20)
def wsX4_sail_r1 : List Cond := [Cond.fieldLink RX4 10 "BoatSets" "now" "LBoatSets$Harbour;", Cond.fieldLink RX4 60 "BoatSets$Harbour" "fleets" "[LBoatSets$Fleet;", Cond.fieldLink RX4 67 "BoatSets$Fleet" "atSea" "Z", Cond.fieldLink RX4 22 "BoatSets" "past" "LBoatSets$History;", Cond.methodLink RX4 56 yX4_isSet, Cond.instanceMethod yX4_isSet, Cond.selects RX4 yX4_isSet yX4_isSet, Cond.initialized RX4, Cond.code yX4_isSet cX4_isSet 2 (some .boolean), Cond.fieldLink RX4 44 "BoatSets$Harbour" "sets" "I", Cond.methodLink RX4 48 yX2_push, Cond.instanceMethod yX2_push, Cond.selects RX2 yX2_push yX2_push, Cond.initialized RX2, Cond.code yX2_push cX2_push 2 none, Cond.fieldLink RX2 18 "BoatSets$History" "size" "I", Cond.fieldLink RX2 11 "BoatSets$History" "states" "[LBoatSets$Harbour;", Cond.methodLink RX2 22 yX2_dropOldest, Cond.instanceMethod yX2_dropOldest, Cond.selects RX2 yX2_dropOldest yX2_dropOldest, Cond.code yX2_dropOldest cX2_dropOldest 3 none, Cond.methodLink RX2 25 yX1_copyFrom, Cond.instanceMethod yX1_copyFrom, Cond.selects RX1 yX1_copyFrom yX1_copyFrom]
def wsX4_sail_r2 : List Cond := [Cond.initialized RX1, Cond.code yX1_copyFrom cX1_copyFrom 3 none, Cond.fieldLink RX1 18 "BoatSets$Harbour" "sets" "I", Cond.fieldLink RX1 11 "BoatSets$Harbour" "fleets" "[LBoatSets$Fleet;", Cond.methodLink RX1 22 yX0_copyFrom, Cond.instanceMethod yX0_copyFrom, Cond.selects RX0 yX0_copyFrom yX0_copyFrom, Cond.initialized RX0, Cond.code yX0_copyFrom cX0_copyFrom 2 none, Cond.fieldLink RX0 9 "BoatSets$Fleet" "words" "[J", Cond.methodLink RX0 48 arraycopyName, Cond.native arraycopyName, Cond.static arraycopyName, Cond.initialized "java/lang/System", Cond.fieldLink RX0 15 "BoatSets$Fleet" "kinds" "[I", Cond.fieldLink RX0 19 "BoatSets$Fleet" "sizes" "[I", Cond.fieldLink RX0 22 "BoatSets$Fleet" "runs" "[I", Cond.fieldLink RX0 28 "BoatSets$Fleet" "purse" "I", Cond.fieldLink RX0 32 "BoatSets$Fleet" "paid" "I", Cond.fieldLink RX0 35 "BoatSets$Fleet" "atSea" "Z", Cond.methodLink RX4 70 yX0_boats, Cond.instanceMethod yX0_boats, Cond.selects RX0 yX0_boats yX0_boats, Cond.code yX0_boats cX0_boats 1 (some .int)]
def wsX4_sail_r3 : List Cond := [Cond.methodLink RX0 101 yX0_boatsOfKind, Cond.instanceMethod yX0_boatsOfKind, Cond.selects RX0 yX0_boatsOfKind yX0_boatsOfKind, Cond.code yX0_boatsOfKind cX0_boatsOfKind 4 (some .int)]
def wsX4_sail : List Cond := .code yX4_sail cX4_sail 3 (some .int) :: ((wsX4_sail_r1 ++ (wsX4_sail_r2 ++ wsX4_sail_r3)) ++ wsX40 ++ wsX10 ++ wsX00 ++ wsX20)
def wsX4_dock_r1 : List Cond := [Cond.fieldLink RX4 22 "BoatSets" "past" "LBoatSets$History;", Cond.fieldLink RX4 10 "BoatSets" "now" "LBoatSets$Harbour;", Cond.fieldLink RX4 60 "BoatSets$Harbour" "fleets" "[LBoatSets$Fleet;", Cond.methodLink RX4 56 yX4_isSet, Cond.instanceMethod yX4_isSet, Cond.selects RX4 yX4_isSet yX4_isSet, Cond.initialized RX4, Cond.code yX4_isSet cX4_isSet 2 (some .boolean), Cond.fieldLink RX4 44 "BoatSets$Harbour" "sets" "I", Cond.methodLink RX4 48 yX2_push, Cond.instanceMethod yX2_push, Cond.selects RX2 yX2_push yX2_push, Cond.initialized RX2, Cond.code yX2_push cX2_push 2 none, Cond.fieldLink RX2 18 "BoatSets$History" "size" "I", Cond.fieldLink RX2 11 "BoatSets$History" "states" "[LBoatSets$Harbour;", Cond.methodLink RX2 22 yX2_dropOldest, Cond.instanceMethod yX2_dropOldest, Cond.selects RX2 yX2_dropOldest yX2_dropOldest, Cond.code yX2_dropOldest cX2_dropOldest 3 none, Cond.methodLink RX2 25 yX1_copyFrom, Cond.instanceMethod yX1_copyFrom, Cond.selects RX1 yX1_copyFrom yX1_copyFrom, Cond.initialized RX1]
def wsX4_dock_r2 : List Cond := [Cond.code yX1_copyFrom cX1_copyFrom 3 none, Cond.fieldLink RX1 18 "BoatSets$Harbour" "sets" "I", Cond.fieldLink RX1 11 "BoatSets$Harbour" "fleets" "[LBoatSets$Fleet;", Cond.methodLink RX1 22 yX0_copyFrom, Cond.instanceMethod yX0_copyFrom, Cond.selects RX0 yX0_copyFrom yX0_copyFrom, Cond.initialized RX0, Cond.code yX0_copyFrom cX0_copyFrom 2 none, Cond.fieldLink RX0 9 "BoatSets$Fleet" "words" "[J", Cond.methodLink RX0 48 arraycopyName, Cond.native arraycopyName, Cond.static arraycopyName, Cond.initialized "java/lang/System", Cond.fieldLink RX0 15 "BoatSets$Fleet" "kinds" "[I", Cond.fieldLink RX0 19 "BoatSets$Fleet" "sizes" "[I", Cond.fieldLink RX0 22 "BoatSets$Fleet" "runs" "[I", Cond.fieldLink RX0 28 "BoatSets$Fleet" "purse" "I", Cond.fieldLink RX0 32 "BoatSets$Fleet" "paid" "I", Cond.fieldLink RX0 35 "BoatSets$Fleet" "atSea" "Z", Cond.methodLink RX4 74 yX0_enterHarbour, Cond.instanceMethod yX0_enterHarbour, Cond.selects RX0 yX0_enterHarbour yX0_enterHarbour, Cond.code yX0_enterHarbour cX0_enterHarbour 5 (some .int), Cond.methodLink RX0 94 yX0_baySavingMost]
def wsX4_dock_r3 : List Cond := [Cond.instanceMethod yX0_baySavingMost, Cond.selects RX0 yX0_baySavingMost yX0_baySavingMost, Cond.code yX0_baySavingMost cX0_baySavingMost 7 (some .int), Cond.methodLink RX0 88 yX0_bestKind, Cond.instanceMethod yX0_bestKind, Cond.selects RX0 yX0_bestKind yX0_bestKind, Cond.code yX0_bestKind cX0_bestKind 3 (some .int), Cond.methodLink RX0 84 yX0_canHold, Cond.instanceMethod yX0_canHold, Cond.selects RX0 yX0_canHold yX0_canHold, Cond.code yX0_canHold cX0_canHold 3 (some .boolean), Cond.methodLink RX0 91 yX0_unitsAs, Cond.instanceMethod yX0_unitsAs, Cond.selects RX0 yX0_unitsAs yX0_unitsAs, Cond.code yX0_unitsAs cX0_unitsAs 3 (some .int), Cond.methodLink RX0 81 yX0_becomeBest, Cond.instanceMethod yX0_becomeBest, Cond.selects RX0 yX0_becomeBest yX0_becomeBest, Cond.code yX0_becomeBest cX0_becomeBest 4 (some .int)]
def wsX4_dock : List Cond := .code yX4_dock cX4_dock 2 (some .int) :: ((wsX4_dock_r1 ++ (wsX4_dock_r2 ++ wsX4_dock_r3)) ++ wsX40 ++ wsX10 ++ wsX20 ++ wsX00)
def wsX4_settleTrial_r1 : List Cond := [Cond.fieldLink RX4 22 "BoatSets" "past" "LBoatSets$History;", Cond.fieldLink RX4 10 "BoatSets" "now" "LBoatSets$Harbour;", Cond.fieldLink RX4 60 "BoatSets$Harbour" "fleets" "[LBoatSets$Fleet;", Cond.fieldLink RX4 36 "BoatSets" "trial" "LBoatSets$Fleet;", Cond.methodLink RX4 48 yX2_push, Cond.instanceMethod yX2_push, Cond.selects RX2 yX2_push yX2_push, Cond.initialized RX2, Cond.code yX2_push cX2_push 2 none, Cond.fieldLink RX2 18 "BoatSets$History" "size" "I", Cond.fieldLink RX2 11 "BoatSets$History" "states" "[LBoatSets$Harbour;", Cond.methodLink RX2 22 yX2_dropOldest, Cond.instanceMethod yX2_dropOldest, Cond.selects RX2 yX2_dropOldest yX2_dropOldest, Cond.code yX2_dropOldest cX2_dropOldest 3 none, Cond.methodLink RX2 25 yX1_copyFrom, Cond.instanceMethod yX1_copyFrom, Cond.selects RX1 yX1_copyFrom yX1_copyFrom, Cond.initialized RX1, Cond.code yX1_copyFrom cX1_copyFrom 3 none, Cond.fieldLink RX1 18 "BoatSets$Harbour" "sets" "I", Cond.fieldLink RX1 11 "BoatSets$Harbour" "fleets" "[LBoatSets$Fleet;", Cond.methodLink RX1 22 yX0_copyFrom, Cond.instanceMethod yX0_copyFrom]
def wsX4_settleTrial_r2 : List Cond := [Cond.selects RX0 yX0_copyFrom yX0_copyFrom, Cond.initialized RX0, Cond.code yX0_copyFrom cX0_copyFrom 2 none, Cond.fieldLink RX0 9 "BoatSets$Fleet" "words" "[J", Cond.methodLink RX0 48 arraycopyName, Cond.native arraycopyName, Cond.static arraycopyName, Cond.initialized "java/lang/System", Cond.fieldLink RX0 15 "BoatSets$Fleet" "kinds" "[I", Cond.fieldLink RX0 19 "BoatSets$Fleet" "sizes" "[I", Cond.fieldLink RX0 22 "BoatSets$Fleet" "runs" "[I", Cond.fieldLink RX0 28 "BoatSets$Fleet" "purse" "I", Cond.fieldLink RX0 32 "BoatSets$Fleet" "paid" "I", Cond.fieldLink RX0 35 "BoatSets$Fleet" "atSea" "Z", Cond.methodLink RX4 91 yX0_copyFrom]
def wsX4_settleTrial : List Cond := .code yX4_settleTrial cX4_settleTrial 3 (some .int) :: ((wsX4_settleTrial_r1 ++ wsX4_settleTrial_r2) ++ wsX40 ++ wsX10 ++ wsX20 ++ wsX00)
def wsX4_moveRange_r1 : List Cond := [Cond.fieldLink RX4 36 "BoatSets" "trial" "LBoatSets$Fleet;", Cond.fieldLink RX4 10 "BoatSets" "now" "LBoatSets$Harbour;", Cond.fieldLink RX4 60 "BoatSets$Harbour" "fleets" "[LBoatSets$Fleet;", Cond.methodLink RX4 56 yX4_isSet, Cond.instanceMethod yX4_isSet, Cond.selects RX4 yX4_isSet yX4_isSet, Cond.initialized RX4, Cond.code yX4_isSet cX4_isSet 2 (some .boolean), Cond.fieldLink RX4 44 "BoatSets$Harbour" "sets" "I", Cond.methodLink RX4 141 yX4_isNumber, Cond.static yX4_isNumber, Cond.code yX4_isNumber cX4_isNumber 1 (some .boolean), Cond.methodLink RX4 91 yX0_copyFrom, Cond.instanceMethod yX0_copyFrom, Cond.selects RX0 yX0_copyFrom yX0_copyFrom, Cond.initialized RX0, Cond.code yX0_copyFrom cX0_copyFrom 2 none, Cond.fieldLink RX0 9 "BoatSets$Fleet" "words" "[J", Cond.methodLink RX0 48 arraycopyName, Cond.native arraycopyName, Cond.static arraycopyName, Cond.initialized "java/lang/System", Cond.fieldLink RX0 15 "BoatSets$Fleet" "kinds" "[I", Cond.fieldLink RX0 19 "BoatSets$Fleet" "sizes" "[I"]
def wsX4_moveRange_r2 : List Cond := [Cond.fieldLink RX0 22 "BoatSets$Fleet" "runs" "[I", Cond.fieldLink RX0 28 "BoatSets$Fleet" "purse" "I", Cond.fieldLink RX0 32 "BoatSets$Fleet" "paid" "I", Cond.fieldLink RX0 35 "BoatSets$Fleet" "atSea" "Z", Cond.methodLink RX4 125 yX0_move, Cond.instanceMethod yX0_move, Cond.selects RX0 yX0_move yX0_move, Cond.code yX0_move cX0_move 8 (some .int), Cond.methodLink RX0 65 Lib.Math.max.name, Cond.static Lib.Math.max.name, Cond.initialized "java/lang/Math", Cond.code Lib.Math.max.name Lib.Math.max.code 2 (some .int), Cond.methodLink RX0 71 Lib.Math.min.name, Cond.static Lib.Math.min.name, Cond.code Lib.Math.min.name Lib.Math.min.code 2 (some .int), Cond.methodLink RX0 58 yX0_holds, Cond.instanceMethod yX0_holds, Cond.selects RX0 yX0_holds yX0_holds, Cond.code yX0_holds cX0_holds 2 (some .boolean), Cond.methodLink RX0 74 yX0_flip, Cond.instanceMethod yX0_flip, Cond.selects RX0 yX0_flip yX0_flip, Cond.code yX0_flip cX0_flip 4 none, Cond.methodLink RX0 61 yX0_neighboursInBay]
def wsX4_moveRange_r3 : List Cond := [Cond.instanceMethod yX0_neighboursInBay, Cond.selects RX0 yX0_neighboursInBay yX0_neighboursInBay, Cond.code yX0_neighboursInBay cX0_neighboursInBay 4 (some .int), Cond.methodLink RX0 78 yX0_adaptBoat, Cond.instanceMethod yX0_adaptBoat, Cond.selects RX0 yX0_adaptBoat yX0_adaptBoat, Cond.code yX0_adaptBoat cX0_adaptBoat 2 (some .boolean), Cond.methodLink RX0 81 yX0_becomeBest, Cond.instanceMethod yX0_becomeBest, Cond.selects RX0 yX0_becomeBest yX0_becomeBest, Cond.code yX0_becomeBest cX0_becomeBest 4 (some .int), Cond.methodLink RX0 88 yX0_bestKind, Cond.instanceMethod yX0_bestKind, Cond.selects RX0 yX0_bestKind yX0_bestKind, Cond.code yX0_bestKind cX0_bestKind 3 (some .int), Cond.methodLink RX0 84 yX0_canHold, Cond.instanceMethod yX0_canHold, Cond.selects RX0 yX0_canHold yX0_canHold, Cond.code yX0_canHold cX0_canHold 3 (some .boolean), Cond.methodLink RX0 91 yX0_unitsAs, Cond.instanceMethod yX0_unitsAs, Cond.selects RX0 yX0_unitsAs yX0_unitsAs, Cond.code yX0_unitsAs cX0_unitsAs 3 (some .int), Cond.methodLink RX4 129 yX4_settleTrial]
def wsX4_moveRange_r4 : List Cond := [Cond.instanceMethod yX4_settleTrial, Cond.selects RX4 yX4_settleTrial yX4_settleTrial, Cond.code yX4_settleTrial cX4_settleTrial 3 (some .int), Cond.fieldLink RX4 22 "BoatSets" "past" "LBoatSets$History;", Cond.methodLink RX4 48 yX2_push, Cond.instanceMethod yX2_push, Cond.selects RX2 yX2_push yX2_push, Cond.initialized RX2, Cond.code yX2_push cX2_push 2 none, Cond.fieldLink RX2 18 "BoatSets$History" "size" "I", Cond.fieldLink RX2 11 "BoatSets$History" "states" "[LBoatSets$Harbour;", Cond.methodLink RX2 22 yX2_dropOldest, Cond.instanceMethod yX2_dropOldest, Cond.selects RX2 yX2_dropOldest yX2_dropOldest, Cond.code yX2_dropOldest cX2_dropOldest 3 none, Cond.methodLink RX2 25 yX1_copyFrom, Cond.instanceMethod yX1_copyFrom, Cond.selects RX1 yX1_copyFrom yX1_copyFrom, Cond.initialized RX1, Cond.code yX1_copyFrom cX1_copyFrom 3 none, Cond.fieldLink RX1 18 "BoatSets$Harbour" "sets" "I", Cond.fieldLink RX1 11 "BoatSets$Harbour" "fleets" "[LBoatSets$Fleet;", Cond.methodLink RX1 22 yX0_copyFrom]
def wsX4_moveRange : List Cond := .code yX4_moveRange cX4_moveRange 5 (some .int) :: ((wsX4_moveRange_r1 ++ (wsX4_moveRange_r2 ++ (wsX4_moveRange_r3 ++ wsX4_moveRange_r4))) ++ wsX40 ++ wsX10 ++ wsX00 ++ wsX20)
def wsX4_add_r1 : List Cond := [Cond.fieldLink RX4 10 "BoatSets" "now" "LBoatSets$Harbour;", Cond.fieldLink RX4 60 "BoatSets$Harbour" "fleets" "[LBoatSets$Fleet;", Cond.fieldLink RX4 81 "BoatSets$Fleet" "kinds" "[I", Cond.methodLink RX4 77 yX4_moveRange, Cond.instanceMethod yX4_moveRange, Cond.selects RX4 yX4_moveRange yX4_moveRange, Cond.initialized RX4, Cond.code yX4_moveRange cX4_moveRange 5 (some .int), Cond.fieldLink RX4 36 "BoatSets" "trial" "LBoatSets$Fleet;", Cond.methodLink RX4 56 yX4_isSet, Cond.instanceMethod yX4_isSet, Cond.selects RX4 yX4_isSet yX4_isSet, Cond.code yX4_isSet cX4_isSet 2 (some .boolean), Cond.fieldLink RX4 44 "BoatSets$Harbour" "sets" "I", Cond.methodLink RX4 141 yX4_isNumber, Cond.static yX4_isNumber, Cond.code yX4_isNumber cX4_isNumber 1 (some .boolean), Cond.methodLink RX4 91 yX0_copyFrom, Cond.instanceMethod yX0_copyFrom, Cond.selects RX0 yX0_copyFrom yX0_copyFrom, Cond.initialized RX0, Cond.code yX0_copyFrom cX0_copyFrom 2 none, Cond.fieldLink RX0 9 "BoatSets$Fleet" "words" "[J", Cond.methodLink RX0 48 arraycopyName]
def wsX4_add_r2 : List Cond := [Cond.native arraycopyName, Cond.static arraycopyName, Cond.initialized "java/lang/System", Cond.fieldLink RX0 15 "BoatSets$Fleet" "kinds" "[I", Cond.fieldLink RX0 19 "BoatSets$Fleet" "sizes" "[I", Cond.fieldLink RX0 22 "BoatSets$Fleet" "runs" "[I", Cond.fieldLink RX0 28 "BoatSets$Fleet" "purse" "I", Cond.fieldLink RX0 32 "BoatSets$Fleet" "paid" "I", Cond.fieldLink RX0 35 "BoatSets$Fleet" "atSea" "Z", Cond.methodLink RX4 125 yX0_move, Cond.instanceMethod yX0_move, Cond.selects RX0 yX0_move yX0_move, Cond.code yX0_move cX0_move 8 (some .int), Cond.methodLink RX0 65 Lib.Math.max.name, Cond.static Lib.Math.max.name, Cond.initialized "java/lang/Math", Cond.code Lib.Math.max.name Lib.Math.max.code 2 (some .int), Cond.methodLink RX0 71 Lib.Math.min.name, Cond.static Lib.Math.min.name, Cond.code Lib.Math.min.name Lib.Math.min.code 2 (some .int), Cond.methodLink RX0 58 yX0_holds, Cond.instanceMethod yX0_holds, Cond.selects RX0 yX0_holds yX0_holds, Cond.code yX0_holds cX0_holds 2 (some .boolean)]
def wsX4_add_r3 : List Cond := [Cond.methodLink RX0 74 yX0_flip, Cond.instanceMethod yX0_flip, Cond.selects RX0 yX0_flip yX0_flip, Cond.code yX0_flip cX0_flip 4 none, Cond.methodLink RX0 61 yX0_neighboursInBay, Cond.instanceMethod yX0_neighboursInBay, Cond.selects RX0 yX0_neighboursInBay yX0_neighboursInBay, Cond.code yX0_neighboursInBay cX0_neighboursInBay 4 (some .int), Cond.methodLink RX0 78 yX0_adaptBoat, Cond.instanceMethod yX0_adaptBoat, Cond.selects RX0 yX0_adaptBoat yX0_adaptBoat, Cond.code yX0_adaptBoat cX0_adaptBoat 2 (some .boolean), Cond.methodLink RX0 81 yX0_becomeBest, Cond.instanceMethod yX0_becomeBest, Cond.selects RX0 yX0_becomeBest yX0_becomeBest, Cond.code yX0_becomeBest cX0_becomeBest 4 (some .int), Cond.methodLink RX0 88 yX0_bestKind, Cond.instanceMethod yX0_bestKind, Cond.selects RX0 yX0_bestKind yX0_bestKind, Cond.code yX0_bestKind cX0_bestKind 3 (some .int), Cond.methodLink RX0 84 yX0_canHold, Cond.instanceMethod yX0_canHold, Cond.selects RX0 yX0_canHold yX0_canHold, Cond.code yX0_canHold cX0_canHold 3 (some .boolean)]
def wsX4_add_r4 : List Cond := [Cond.methodLink RX0 91 yX0_unitsAs, Cond.instanceMethod yX0_unitsAs, Cond.selects RX0 yX0_unitsAs yX0_unitsAs, Cond.code yX0_unitsAs cX0_unitsAs 3 (some .int), Cond.methodLink RX4 129 yX4_settleTrial, Cond.instanceMethod yX4_settleTrial, Cond.selects RX4 yX4_settleTrial yX4_settleTrial, Cond.code yX4_settleTrial cX4_settleTrial 3 (some .int), Cond.fieldLink RX4 22 "BoatSets" "past" "LBoatSets$History;", Cond.methodLink RX4 48 yX2_push, Cond.instanceMethod yX2_push, Cond.selects RX2 yX2_push yX2_push, Cond.initialized RX2, Cond.code yX2_push cX2_push 2 none, Cond.fieldLink RX2 18 "BoatSets$History" "size" "I", Cond.fieldLink RX2 11 "BoatSets$History" "states" "[LBoatSets$Harbour;", Cond.methodLink RX2 22 yX2_dropOldest, Cond.instanceMethod yX2_dropOldest, Cond.selects RX2 yX2_dropOldest yX2_dropOldest, Cond.code yX2_dropOldest cX2_dropOldest 3 none, Cond.methodLink RX2 25 yX1_copyFrom, Cond.instanceMethod yX1_copyFrom, Cond.selects RX1 yX1_copyFrom yX1_copyFrom, Cond.initialized RX1]
def wsX4_add_r5 : List Cond := [Cond.code yX1_copyFrom cX1_copyFrom 3 none, Cond.fieldLink RX1 18 "BoatSets$Harbour" "sets" "I", Cond.fieldLink RX1 11 "BoatSets$Harbour" "fleets" "[LBoatSets$Fleet;", Cond.methodLink RX1 22 yX0_copyFrom]
def wsX4_add : List Cond := .code yX4_add cX4_add 4 (some .int) :: ((wsX4_add_r1 ++ (wsX4_add_r2 ++ (wsX4_add_r3 ++ (wsX4_add_r4 ++ wsX4_add_r5)))) ++ wsX40 ++ wsX10 ++ wsX00 ++ wsX20)
def wsX4_remove_r1 : List Cond := [Cond.fieldLink RX4 10 "BoatSets" "now" "LBoatSets$Harbour;", Cond.fieldLink RX4 60 "BoatSets$Harbour" "fleets" "[LBoatSets$Fleet;", Cond.fieldLink RX4 85 "BoatSets$Fleet" "sizes" "[I", Cond.methodLink RX4 77 yX4_moveRange, Cond.instanceMethod yX4_moveRange, Cond.selects RX4 yX4_moveRange yX4_moveRange, Cond.initialized RX4, Cond.code yX4_moveRange cX4_moveRange 5 (some .int), Cond.fieldLink RX4 36 "BoatSets" "trial" "LBoatSets$Fleet;", Cond.methodLink RX4 56 yX4_isSet, Cond.instanceMethod yX4_isSet, Cond.selects RX4 yX4_isSet yX4_isSet, Cond.code yX4_isSet cX4_isSet 2 (some .boolean), Cond.fieldLink RX4 44 "BoatSets$Harbour" "sets" "I", Cond.methodLink RX4 141 yX4_isNumber, Cond.static yX4_isNumber, Cond.code yX4_isNumber cX4_isNumber 1 (some .boolean), Cond.methodLink RX4 91 yX0_copyFrom, Cond.instanceMethod yX0_copyFrom, Cond.selects RX0 yX0_copyFrom yX0_copyFrom, Cond.initialized RX0, Cond.code yX0_copyFrom cX0_copyFrom 2 none, Cond.fieldLink RX0 9 "BoatSets$Fleet" "words" "[J", Cond.methodLink RX0 48 arraycopyName]
def wsX4_remove_r2 : List Cond := [Cond.native arraycopyName, Cond.static arraycopyName, Cond.initialized "java/lang/System", Cond.fieldLink RX0 15 "BoatSets$Fleet" "kinds" "[I", Cond.fieldLink RX0 19 "BoatSets$Fleet" "sizes" "[I", Cond.fieldLink RX0 22 "BoatSets$Fleet" "runs" "[I", Cond.fieldLink RX0 28 "BoatSets$Fleet" "purse" "I", Cond.fieldLink RX0 32 "BoatSets$Fleet" "paid" "I", Cond.fieldLink RX0 35 "BoatSets$Fleet" "atSea" "Z", Cond.methodLink RX4 125 yX0_move, Cond.instanceMethod yX0_move, Cond.selects RX0 yX0_move yX0_move, Cond.code yX0_move cX0_move 8 (some .int), Cond.methodLink RX0 65 Lib.Math.max.name, Cond.static Lib.Math.max.name, Cond.initialized "java/lang/Math", Cond.code Lib.Math.max.name Lib.Math.max.code 2 (some .int), Cond.methodLink RX0 71 Lib.Math.min.name, Cond.static Lib.Math.min.name, Cond.code Lib.Math.min.name Lib.Math.min.code 2 (some .int), Cond.methodLink RX0 58 yX0_holds, Cond.instanceMethod yX0_holds, Cond.selects RX0 yX0_holds yX0_holds, Cond.code yX0_holds cX0_holds 2 (some .boolean)]
def wsX4_remove_r3 : List Cond := [Cond.methodLink RX0 74 yX0_flip, Cond.instanceMethod yX0_flip, Cond.selects RX0 yX0_flip yX0_flip, Cond.code yX0_flip cX0_flip 4 none, Cond.methodLink RX0 61 yX0_neighboursInBay, Cond.instanceMethod yX0_neighboursInBay, Cond.selects RX0 yX0_neighboursInBay yX0_neighboursInBay, Cond.code yX0_neighboursInBay cX0_neighboursInBay 4 (some .int), Cond.methodLink RX0 78 yX0_adaptBoat, Cond.instanceMethod yX0_adaptBoat, Cond.selects RX0 yX0_adaptBoat yX0_adaptBoat, Cond.code yX0_adaptBoat cX0_adaptBoat 2 (some .boolean), Cond.methodLink RX0 81 yX0_becomeBest, Cond.instanceMethod yX0_becomeBest, Cond.selects RX0 yX0_becomeBest yX0_becomeBest, Cond.code yX0_becomeBest cX0_becomeBest 4 (some .int), Cond.methodLink RX0 88 yX0_bestKind, Cond.instanceMethod yX0_bestKind, Cond.selects RX0 yX0_bestKind yX0_bestKind, Cond.code yX0_bestKind cX0_bestKind 3 (some .int), Cond.methodLink RX0 84 yX0_canHold, Cond.instanceMethod yX0_canHold, Cond.selects RX0 yX0_canHold yX0_canHold, Cond.code yX0_canHold cX0_canHold 3 (some .boolean)]
def wsX4_remove_r4 : List Cond := [Cond.methodLink RX0 91 yX0_unitsAs, Cond.instanceMethod yX0_unitsAs, Cond.selects RX0 yX0_unitsAs yX0_unitsAs, Cond.code yX0_unitsAs cX0_unitsAs 3 (some .int), Cond.methodLink RX4 129 yX4_settleTrial, Cond.instanceMethod yX4_settleTrial, Cond.selects RX4 yX4_settleTrial yX4_settleTrial, Cond.code yX4_settleTrial cX4_settleTrial 3 (some .int), Cond.fieldLink RX4 22 "BoatSets" "past" "LBoatSets$History;", Cond.methodLink RX4 48 yX2_push, Cond.instanceMethod yX2_push, Cond.selects RX2 yX2_push yX2_push, Cond.initialized RX2, Cond.code yX2_push cX2_push 2 none, Cond.fieldLink RX2 18 "BoatSets$History" "size" "I", Cond.fieldLink RX2 11 "BoatSets$History" "states" "[LBoatSets$Harbour;", Cond.methodLink RX2 22 yX2_dropOldest, Cond.instanceMethod yX2_dropOldest, Cond.selects RX2 yX2_dropOldest yX2_dropOldest, Cond.code yX2_dropOldest cX2_dropOldest 3 none, Cond.methodLink RX2 25 yX1_copyFrom, Cond.instanceMethod yX1_copyFrom, Cond.selects RX1 yX1_copyFrom yX1_copyFrom, Cond.initialized RX1]
def wsX4_remove_r5 : List Cond := [Cond.code yX1_copyFrom cX1_copyFrom 3 none, Cond.fieldLink RX1 18 "BoatSets$Harbour" "sets" "I", Cond.fieldLink RX1 11 "BoatSets$Harbour" "fleets" "[LBoatSets$Fleet;", Cond.methodLink RX1 22 yX0_copyFrom]
def wsX4_remove : List Cond := .code yX4_remove cX4_remove 4 (some .int) :: ((wsX4_remove_r1 ++ (wsX4_remove_r2 ++ (wsX4_remove_r3 ++ (wsX4_remove_r4 ++ wsX4_remove_r5)))) ++ wsX40 ++ wsX10 ++ wsX00 ++ wsX20)
def wsX4_addRange_r1 : List Cond := [Cond.methodLink RX4 77 yX4_moveRange, Cond.instanceMethod yX4_moveRange, Cond.selects RX4 yX4_moveRange yX4_moveRange, Cond.initialized RX4, Cond.code yX4_moveRange cX4_moveRange 5 (some .int), Cond.fieldLink RX4 36 "BoatSets" "trial" "LBoatSets$Fleet;", Cond.fieldLink RX4 10 "BoatSets" "now" "LBoatSets$Harbour;", Cond.fieldLink RX4 60 "BoatSets$Harbour" "fleets" "[LBoatSets$Fleet;", Cond.methodLink RX4 56 yX4_isSet, Cond.instanceMethod yX4_isSet, Cond.selects RX4 yX4_isSet yX4_isSet, Cond.code yX4_isSet cX4_isSet 2 (some .boolean), Cond.fieldLink RX4 44 "BoatSets$Harbour" "sets" "I", Cond.methodLink RX4 141 yX4_isNumber, Cond.static yX4_isNumber, Cond.code yX4_isNumber cX4_isNumber 1 (some .boolean), Cond.methodLink RX4 91 yX0_copyFrom, Cond.instanceMethod yX0_copyFrom, Cond.selects RX0 yX0_copyFrom yX0_copyFrom, Cond.initialized RX0, Cond.code yX0_copyFrom cX0_copyFrom 2 none, Cond.fieldLink RX0 9 "BoatSets$Fleet" "words" "[J", Cond.methodLink RX0 48 arraycopyName, Cond.native arraycopyName]
def wsX4_addRange_r2 : List Cond := [Cond.static arraycopyName, Cond.initialized "java/lang/System", Cond.fieldLink RX0 15 "BoatSets$Fleet" "kinds" "[I", Cond.fieldLink RX0 19 "BoatSets$Fleet" "sizes" "[I", Cond.fieldLink RX0 22 "BoatSets$Fleet" "runs" "[I", Cond.fieldLink RX0 28 "BoatSets$Fleet" "purse" "I", Cond.fieldLink RX0 32 "BoatSets$Fleet" "paid" "I", Cond.fieldLink RX0 35 "BoatSets$Fleet" "atSea" "Z", Cond.methodLink RX4 125 yX0_move, Cond.instanceMethod yX0_move, Cond.selects RX0 yX0_move yX0_move, Cond.code yX0_move cX0_move 8 (some .int), Cond.methodLink RX0 65 Lib.Math.max.name, Cond.static Lib.Math.max.name, Cond.initialized "java/lang/Math", Cond.code Lib.Math.max.name Lib.Math.max.code 2 (some .int), Cond.methodLink RX0 71 Lib.Math.min.name, Cond.static Lib.Math.min.name, Cond.code Lib.Math.min.name Lib.Math.min.code 2 (some .int), Cond.methodLink RX0 58 yX0_holds, Cond.instanceMethod yX0_holds, Cond.selects RX0 yX0_holds yX0_holds, Cond.code yX0_holds cX0_holds 2 (some .boolean), Cond.methodLink RX0 74 yX0_flip]
def wsX4_addRange_r3 : List Cond := [Cond.instanceMethod yX0_flip, Cond.selects RX0 yX0_flip yX0_flip, Cond.code yX0_flip cX0_flip 4 none, Cond.methodLink RX0 61 yX0_neighboursInBay, Cond.instanceMethod yX0_neighboursInBay, Cond.selects RX0 yX0_neighboursInBay yX0_neighboursInBay, Cond.code yX0_neighboursInBay cX0_neighboursInBay 4 (some .int), Cond.methodLink RX0 78 yX0_adaptBoat, Cond.instanceMethod yX0_adaptBoat, Cond.selects RX0 yX0_adaptBoat yX0_adaptBoat, Cond.code yX0_adaptBoat cX0_adaptBoat 2 (some .boolean), Cond.methodLink RX0 81 yX0_becomeBest, Cond.instanceMethod yX0_becomeBest, Cond.selects RX0 yX0_becomeBest yX0_becomeBest, Cond.code yX0_becomeBest cX0_becomeBest 4 (some .int), Cond.methodLink RX0 88 yX0_bestKind, Cond.instanceMethod yX0_bestKind, Cond.selects RX0 yX0_bestKind yX0_bestKind, Cond.code yX0_bestKind cX0_bestKind 3 (some .int), Cond.methodLink RX0 84 yX0_canHold, Cond.instanceMethod yX0_canHold, Cond.selects RX0 yX0_canHold yX0_canHold, Cond.code yX0_canHold cX0_canHold 3 (some .boolean), Cond.methodLink RX0 91 yX0_unitsAs]
def wsX4_addRange_r4 : List Cond := [Cond.instanceMethod yX0_unitsAs, Cond.selects RX0 yX0_unitsAs yX0_unitsAs, Cond.code yX0_unitsAs cX0_unitsAs 3 (some .int), Cond.methodLink RX4 129 yX4_settleTrial, Cond.instanceMethod yX4_settleTrial, Cond.selects RX4 yX4_settleTrial yX4_settleTrial, Cond.code yX4_settleTrial cX4_settleTrial 3 (some .int), Cond.fieldLink RX4 22 "BoatSets" "past" "LBoatSets$History;", Cond.methodLink RX4 48 yX2_push, Cond.instanceMethod yX2_push, Cond.selects RX2 yX2_push yX2_push, Cond.initialized RX2, Cond.code yX2_push cX2_push 2 none, Cond.fieldLink RX2 18 "BoatSets$History" "size" "I", Cond.fieldLink RX2 11 "BoatSets$History" "states" "[LBoatSets$Harbour;", Cond.methodLink RX2 22 yX2_dropOldest, Cond.instanceMethod yX2_dropOldest, Cond.selects RX2 yX2_dropOldest yX2_dropOldest, Cond.code yX2_dropOldest cX2_dropOldest 3 none, Cond.methodLink RX2 25 yX1_copyFrom, Cond.instanceMethod yX1_copyFrom, Cond.selects RX1 yX1_copyFrom yX1_copyFrom, Cond.initialized RX1, Cond.code yX1_copyFrom cX1_copyFrom 3 none]
def wsX4_addRange_r5 : List Cond := [Cond.fieldLink RX1 18 "BoatSets$Harbour" "sets" "I", Cond.fieldLink RX1 11 "BoatSets$Harbour" "fleets" "[LBoatSets$Fleet;", Cond.methodLink RX1 22 yX0_copyFrom]
def wsX4_addRange : List Cond := .code yX4_addRange cX4_addRange 4 (some .int) :: ((wsX4_addRange_r1 ++ (wsX4_addRange_r2 ++ (wsX4_addRange_r3 ++ (wsX4_addRange_r4 ++ wsX4_addRange_r5)))) ++ wsX40 ++ wsX10 ++ wsX00 ++ wsX20)
def wsX4_removeRange_r1 : List Cond := [Cond.methodLink RX4 77 yX4_moveRange, Cond.instanceMethod yX4_moveRange, Cond.selects RX4 yX4_moveRange yX4_moveRange, Cond.initialized RX4, Cond.code yX4_moveRange cX4_moveRange 5 (some .int), Cond.fieldLink RX4 36 "BoatSets" "trial" "LBoatSets$Fleet;", Cond.fieldLink RX4 10 "BoatSets" "now" "LBoatSets$Harbour;", Cond.fieldLink RX4 60 "BoatSets$Harbour" "fleets" "[LBoatSets$Fleet;", Cond.methodLink RX4 56 yX4_isSet, Cond.instanceMethod yX4_isSet, Cond.selects RX4 yX4_isSet yX4_isSet, Cond.code yX4_isSet cX4_isSet 2 (some .boolean), Cond.fieldLink RX4 44 "BoatSets$Harbour" "sets" "I", Cond.methodLink RX4 141 yX4_isNumber, Cond.static yX4_isNumber, Cond.code yX4_isNumber cX4_isNumber 1 (some .boolean), Cond.methodLink RX4 91 yX0_copyFrom, Cond.instanceMethod yX0_copyFrom, Cond.selects RX0 yX0_copyFrom yX0_copyFrom, Cond.initialized RX0, Cond.code yX0_copyFrom cX0_copyFrom 2 none, Cond.fieldLink RX0 9 "BoatSets$Fleet" "words" "[J", Cond.methodLink RX0 48 arraycopyName, Cond.native arraycopyName]
def wsX4_removeRange_r2 : List Cond := [Cond.static arraycopyName, Cond.initialized "java/lang/System", Cond.fieldLink RX0 15 "BoatSets$Fleet" "kinds" "[I", Cond.fieldLink RX0 19 "BoatSets$Fleet" "sizes" "[I", Cond.fieldLink RX0 22 "BoatSets$Fleet" "runs" "[I", Cond.fieldLink RX0 28 "BoatSets$Fleet" "purse" "I", Cond.fieldLink RX0 32 "BoatSets$Fleet" "paid" "I", Cond.fieldLink RX0 35 "BoatSets$Fleet" "atSea" "Z", Cond.methodLink RX4 125 yX0_move, Cond.instanceMethod yX0_move, Cond.selects RX0 yX0_move yX0_move, Cond.code yX0_move cX0_move 8 (some .int), Cond.methodLink RX0 65 Lib.Math.max.name, Cond.static Lib.Math.max.name, Cond.initialized "java/lang/Math", Cond.code Lib.Math.max.name Lib.Math.max.code 2 (some .int), Cond.methodLink RX0 71 Lib.Math.min.name, Cond.static Lib.Math.min.name, Cond.code Lib.Math.min.name Lib.Math.min.code 2 (some .int), Cond.methodLink RX0 58 yX0_holds, Cond.instanceMethod yX0_holds, Cond.selects RX0 yX0_holds yX0_holds, Cond.code yX0_holds cX0_holds 2 (some .boolean), Cond.methodLink RX0 74 yX0_flip]
def wsX4_removeRange_r3 : List Cond := [Cond.instanceMethod yX0_flip, Cond.selects RX0 yX0_flip yX0_flip, Cond.code yX0_flip cX0_flip 4 none, Cond.methodLink RX0 61 yX0_neighboursInBay, Cond.instanceMethod yX0_neighboursInBay, Cond.selects RX0 yX0_neighboursInBay yX0_neighboursInBay, Cond.code yX0_neighboursInBay cX0_neighboursInBay 4 (some .int), Cond.methodLink RX0 78 yX0_adaptBoat, Cond.instanceMethod yX0_adaptBoat, Cond.selects RX0 yX0_adaptBoat yX0_adaptBoat, Cond.code yX0_adaptBoat cX0_adaptBoat 2 (some .boolean), Cond.methodLink RX0 81 yX0_becomeBest, Cond.instanceMethod yX0_becomeBest, Cond.selects RX0 yX0_becomeBest yX0_becomeBest, Cond.code yX0_becomeBest cX0_becomeBest 4 (some .int), Cond.methodLink RX0 88 yX0_bestKind, Cond.instanceMethod yX0_bestKind, Cond.selects RX0 yX0_bestKind yX0_bestKind, Cond.code yX0_bestKind cX0_bestKind 3 (some .int), Cond.methodLink RX0 84 yX0_canHold, Cond.instanceMethod yX0_canHold, Cond.selects RX0 yX0_canHold yX0_canHold, Cond.code yX0_canHold cX0_canHold 3 (some .boolean), Cond.methodLink RX0 91 yX0_unitsAs]
def wsX4_removeRange_r4 : List Cond := [Cond.instanceMethod yX0_unitsAs, Cond.selects RX0 yX0_unitsAs yX0_unitsAs, Cond.code yX0_unitsAs cX0_unitsAs 3 (some .int), Cond.methodLink RX4 129 yX4_settleTrial, Cond.instanceMethod yX4_settleTrial, Cond.selects RX4 yX4_settleTrial yX4_settleTrial, Cond.code yX4_settleTrial cX4_settleTrial 3 (some .int), Cond.fieldLink RX4 22 "BoatSets" "past" "LBoatSets$History;", Cond.methodLink RX4 48 yX2_push, Cond.instanceMethod yX2_push, Cond.selects RX2 yX2_push yX2_push, Cond.initialized RX2, Cond.code yX2_push cX2_push 2 none, Cond.fieldLink RX2 18 "BoatSets$History" "size" "I", Cond.fieldLink RX2 11 "BoatSets$History" "states" "[LBoatSets$Harbour;", Cond.methodLink RX2 22 yX2_dropOldest, Cond.instanceMethod yX2_dropOldest, Cond.selects RX2 yX2_dropOldest yX2_dropOldest, Cond.code yX2_dropOldest cX2_dropOldest 3 none, Cond.methodLink RX2 25 yX1_copyFrom, Cond.instanceMethod yX1_copyFrom, Cond.selects RX1 yX1_copyFrom yX1_copyFrom, Cond.initialized RX1, Cond.code yX1_copyFrom cX1_copyFrom 3 none]
def wsX4_removeRange_r5 : List Cond := [Cond.fieldLink RX1 18 "BoatSets$Harbour" "sets" "I", Cond.fieldLink RX1 11 "BoatSets$Harbour" "fleets" "[LBoatSets$Fleet;", Cond.methodLink RX1 22 yX0_copyFrom]
def wsX4_removeRange : List Cond := .code yX4_removeRange cX4_removeRange 4 (some .int) :: ((wsX4_removeRange_r1 ++ (wsX4_removeRange_r2 ++ (wsX4_removeRange_r3 ++ (wsX4_removeRange_r4 ++ wsX4_removeRange_r5)))) ++ wsX40 ++ wsX10 ++ wsX00 ++ wsX20)
def wsX4_isHow : List Cond := .code yX4_isHow cX4_isHow 1 (some .boolean) :: ([])
def wsX4_combine_r1 : List Cond := [Cond.fieldLink RX4 10 "BoatSets" "now" "LBoatSets$Harbour;", Cond.fieldLink RX4 60 "BoatSets$Harbour" "fleets" "[LBoatSets$Fleet;", Cond.fieldLink RX4 67 "BoatSets$Fleet" "atSea" "Z", Cond.fieldLink RX4 36 "BoatSets" "trial" "LBoatSets$Fleet;", Cond.fieldLink RX4 22 "BoatSets" "past" "LBoatSets$History;", Cond.methodLink RX4 56 yX4_isSet, Cond.instanceMethod yX4_isSet, Cond.selects RX4 yX4_isSet yX4_isSet, Cond.initialized RX4, Cond.code yX4_isSet cX4_isSet 2 (some .boolean), Cond.fieldLink RX4 44 "BoatSets$Harbour" "sets" "I", Cond.methodLink RX4 88 yX4_isHow, Cond.static yX4_isHow, Cond.code yX4_isHow cX4_isHow 1 (some .boolean), Cond.methodLink RX4 91 yX0_copyFrom, Cond.instanceMethod yX0_copyFrom, Cond.selects RX0 yX0_copyFrom yX0_copyFrom, Cond.initialized RX0, Cond.code yX0_copyFrom cX0_copyFrom 2 none, Cond.fieldLink RX0 9 "BoatSets$Fleet" "words" "[J", Cond.methodLink RX0 48 arraycopyName, Cond.native arraycopyName, Cond.static arraycopyName, Cond.initialized "java/lang/System"]
def wsX4_combine_r2 : List Cond := [Cond.fieldLink RX0 15 "BoatSets$Fleet" "kinds" "[I", Cond.fieldLink RX0 19 "BoatSets$Fleet" "sizes" "[I", Cond.fieldLink RX0 22 "BoatSets$Fleet" "runs" "[I", Cond.fieldLink RX0 28 "BoatSets$Fleet" "purse" "I", Cond.fieldLink RX0 32 "BoatSets$Fleet" "paid" "I", Cond.fieldLink RX0 35 "BoatSets$Fleet" "atSea" "Z", Cond.methodLink RX4 95 yX0_fillWith, Cond.instanceMethod yX0_fillWith, Cond.selects RX0 yX0_fillWith yX0_fillWith, Cond.code yX0_fillWith cX0_fillWith 8 none, Cond.methodLink RX0 25 yX0_clearNumbers, Cond.instanceMethod yX0_clearNumbers, Cond.selects RX0 yX0_clearNumbers yX0_clearNumbers, Cond.code yX0_clearNumbers cX0_clearNumbers 1 none, Cond.methodLink RX0 39 yJ7_fill_d0a16, Cond.static yJ7_fill_d0a16, Cond.initialized RJ7, Cond.code yJ7_fill_d0a16 cJ7_fill_d0a16 5 none, Cond.methodLink RX0 45 yJ7_fill_53178, Cond.static yJ7_fill_53178, Cond.code yJ7_fill_53178 cJ7_fill_53178 4 none, Cond.static yX4_join, Cond.code yX4_join cX4_join 5 (some .long), Cond.constantLong RX4 217 (-1)]
def wsX4_combine_r3 : List Cond := [Cond.methodLink RX0 74 yX0_flip, Cond.instanceMethod yX0_flip, Cond.selects RX0 yX0_flip yX0_flip, Cond.code yX0_flip cX0_flip 4 none, Cond.static yX4_isNumber, Cond.code yX4_isNumber cX4_isNumber 1 (some .boolean), Cond.methodLink RX0 58 yX0_holds, Cond.instanceMethod yX0_holds, Cond.selects RX0 yX0_holds yX0_holds, Cond.code yX0_holds cX0_holds 2 (some .boolean), Cond.methodLink RX0 61 yX0_neighboursInBay, Cond.instanceMethod yX0_neighboursInBay, Cond.selects RX0 yX0_neighboursInBay yX0_neighboursInBay, Cond.code yX0_neighboursInBay cX0_neighboursInBay 4 (some .int), Cond.methodLink RX0 88 yX0_bestKind, Cond.instanceMethod yX0_bestKind, Cond.selects RX0 yX0_bestKind yX0_bestKind, Cond.code yX0_bestKind cX0_bestKind 3 (some .int), Cond.methodLink RX0 84 yX0_canHold, Cond.instanceMethod yX0_canHold, Cond.selects RX0 yX0_canHold yX0_canHold, Cond.code yX0_canHold cX0_canHold 3 (some .boolean), Cond.methodLink RX0 91 yX0_unitsAs, Cond.instanceMethod yX0_unitsAs]
def wsX4_combine_r4 : List Cond := [Cond.selects RX0 yX0_unitsAs yX0_unitsAs, Cond.code yX0_unitsAs cX0_unitsAs 3 (some .int), Cond.methodLink RX4 48 yX2_push, Cond.instanceMethod yX2_push, Cond.selects RX2 yX2_push yX2_push, Cond.initialized RX2, Cond.code yX2_push cX2_push 2 none, Cond.fieldLink RX2 18 "BoatSets$History" "size" "I", Cond.fieldLink RX2 11 "BoatSets$History" "states" "[LBoatSets$Harbour;", Cond.methodLink RX2 22 yX2_dropOldest, Cond.instanceMethod yX2_dropOldest, Cond.selects RX2 yX2_dropOldest yX2_dropOldest, Cond.code yX2_dropOldest cX2_dropOldest 3 none, Cond.methodLink RX2 25 yX1_copyFrom, Cond.instanceMethod yX1_copyFrom, Cond.selects RX1 yX1_copyFrom yX1_copyFrom, Cond.initialized RX1, Cond.code yX1_copyFrom cX1_copyFrom 3 none, Cond.fieldLink RX1 18 "BoatSets$Harbour" "sets" "I", Cond.fieldLink RX1 11 "BoatSets$Harbour" "fleets" "[LBoatSets$Fleet;", Cond.methodLink RX1 22 yX0_copyFrom, Cond.methodLink RX4 99 yX0_numbers, Cond.instanceMethod yX0_numbers, Cond.selects RX0 yX0_numbers yX0_numbers]
def wsX4_combine_r5 : List Cond := [Cond.code yX0_numbers cX0_numbers 3 (some .int)]
def wsX4_combine : List Cond := .code yX4_combine cX4_combine 6 (some .int) :: ((wsX4_combine_r1 ++ (wsX4_combine_r2 ++ (wsX4_combine_r3 ++ (wsX4_combine_r4 ++ wsX4_combine_r5)))) ++ wsX40 ++ wsX10 ++ wsX00 ++ wsX20)
def wsX4_type : List Cond := .code yX4_type cX4_type 2 (some .int) :: ([.fieldLink RX4 29 "BoatSets" "text" "LBoatSets$RangeText;", .fieldLink RX4 102 "BoatSets$RangeText" "length" "I", .fieldLink RX4 105 "BoatSets$RangeText" "characters" "[C"] ++ wsX40 ++ wsX30)
def wsX4_clearText : List Cond := .code yX4_clearText cX4_clearText 2 (some .int) :: ([.fieldLink RX4 29 "BoatSets" "text" "LBoatSets$RangeText;", .fieldLink RX4 102 "BoatSets$RangeText" "length" "I"] ++ wsX40 ++ wsX30)
def wsX4_readRanges_r1 : List Cond := [Cond.fieldLink RX4 29 "BoatSets" "text" "LBoatSets$RangeText;", Cond.fieldLink RX4 36 "BoatSets" "trial" "LBoatSets$Fleet;", Cond.fieldLink RX4 10 "BoatSets" "now" "LBoatSets$Harbour;", Cond.fieldLink RX4 60 "BoatSets$Harbour" "fleets" "[LBoatSets$Fleet;", Cond.fieldLink RX4 116 "BoatSets$RangeText" "ranges" "I", Cond.fieldLink RX4 119 "BoatSets$RangeText" "firsts" "[I", Cond.fieldLink RX4 122 "BoatSets$RangeText" "lasts" "[I", Cond.methodLink RX4 56 yX4_isSet, Cond.instanceMethod yX4_isSet, Cond.selects RX4 yX4_isSet yX4_isSet, Cond.initialized RX4, Cond.code yX4_isSet cX4_isSet 2 (some .boolean), Cond.fieldLink RX4 44 "BoatSets$Harbour" "sets" "I", Cond.methodLink RX4 109 yX3_read, Cond.instanceMethod yX3_read, Cond.selects RX3 yX3_read yX3_read, Cond.initialized RX3, Cond.code yX3_read cX3_read 7 (some .int), Cond.fieldLink RX3 22 "BoatSets$RangeText" "ranges" "I", Cond.fieldLink RX3 26 "BoatSets$RangeText" "length" "I", Cond.fieldLink RX3 9 "BoatSets$RangeText" "characters" "[C", Cond.methodLink RX3 29 yX3_noteRange, Cond.instanceMethod yX3_noteRange, Cond.selects RX3 yX3_noteRange yX3_noteRange]
def wsX4_readRanges_r2 : List Cond := [Cond.code yX3_noteRange cX3_noteRange 3 none, Cond.fieldLink RX3 15 "BoatSets$RangeText" "firsts" "[I", Cond.fieldLink RX3 19 "BoatSets$RangeText" "lasts" "[I", Cond.methodLink RX4 112 yX3_hasGoodValues, Cond.instanceMethod yX3_hasGoodValues, Cond.selects RX3 yX3_hasGoodValues yX3_hasGoodValues, Cond.code yX3_hasGoodValues cX3_hasGoodValues 2 (some .boolean), Cond.static yX4_isNumber, Cond.code yX4_isNumber cX4_isNumber 1 (some .boolean), Cond.methodLink RX4 91 yX0_copyFrom, Cond.instanceMethod yX0_copyFrom, Cond.selects RX0 yX0_copyFrom yX0_copyFrom, Cond.initialized RX0, Cond.code yX0_copyFrom cX0_copyFrom 2 none, Cond.fieldLink RX0 9 "BoatSets$Fleet" "words" "[J", Cond.methodLink RX0 48 arraycopyName, Cond.native arraycopyName, Cond.static arraycopyName, Cond.initialized "java/lang/System", Cond.fieldLink RX0 15 "BoatSets$Fleet" "kinds" "[I", Cond.fieldLink RX0 19 "BoatSets$Fleet" "sizes" "[I", Cond.fieldLink RX0 22 "BoatSets$Fleet" "runs" "[I", Cond.fieldLink RX0 28 "BoatSets$Fleet" "purse" "I", Cond.fieldLink RX0 32 "BoatSets$Fleet" "paid" "I"]
def wsX4_readRanges_r3 : List Cond := [Cond.fieldLink RX0 35 "BoatSets$Fleet" "atSea" "Z", Cond.methodLink RX4 125 yX0_move, Cond.instanceMethod yX0_move, Cond.selects RX0 yX0_move yX0_move, Cond.code yX0_move cX0_move 8 (some .int), Cond.methodLink RX0 65 Lib.Math.max.name, Cond.static Lib.Math.max.name, Cond.initialized "java/lang/Math", Cond.code Lib.Math.max.name Lib.Math.max.code 2 (some .int), Cond.methodLink RX0 71 Lib.Math.min.name, Cond.static Lib.Math.min.name, Cond.code Lib.Math.min.name Lib.Math.min.code 2 (some .int), Cond.methodLink RX0 58 yX0_holds, Cond.instanceMethod yX0_holds, Cond.selects RX0 yX0_holds yX0_holds, Cond.code yX0_holds cX0_holds 2 (some .boolean), Cond.methodLink RX0 74 yX0_flip, Cond.instanceMethod yX0_flip, Cond.selects RX0 yX0_flip yX0_flip, Cond.code yX0_flip cX0_flip 4 none, Cond.methodLink RX0 61 yX0_neighboursInBay, Cond.instanceMethod yX0_neighboursInBay, Cond.selects RX0 yX0_neighboursInBay yX0_neighboursInBay, Cond.code yX0_neighboursInBay cX0_neighboursInBay 4 (some .int)]
def wsX4_readRanges_r4 : List Cond := [Cond.methodLink RX0 78 yX0_adaptBoat, Cond.instanceMethod yX0_adaptBoat, Cond.selects RX0 yX0_adaptBoat yX0_adaptBoat, Cond.code yX0_adaptBoat cX0_adaptBoat 2 (some .boolean), Cond.methodLink RX0 81 yX0_becomeBest, Cond.instanceMethod yX0_becomeBest, Cond.selects RX0 yX0_becomeBest yX0_becomeBest, Cond.code yX0_becomeBest cX0_becomeBest 4 (some .int), Cond.methodLink RX0 88 yX0_bestKind, Cond.instanceMethod yX0_bestKind, Cond.selects RX0 yX0_bestKind yX0_bestKind, Cond.code yX0_bestKind cX0_bestKind 3 (some .int), Cond.methodLink RX0 84 yX0_canHold, Cond.instanceMethod yX0_canHold, Cond.selects RX0 yX0_canHold yX0_canHold, Cond.code yX0_canHold cX0_canHold 3 (some .boolean), Cond.methodLink RX0 91 yX0_unitsAs, Cond.instanceMethod yX0_unitsAs, Cond.selects RX0 yX0_unitsAs yX0_unitsAs, Cond.code yX0_unitsAs cX0_unitsAs 3 (some .int), Cond.methodLink RX4 129 yX4_settleTrial, Cond.instanceMethod yX4_settleTrial, Cond.selects RX4 yX4_settleTrial yX4_settleTrial, Cond.code yX4_settleTrial cX4_settleTrial 3 (some .int)]
def wsX4_readRanges_r5 : List Cond := [Cond.fieldLink RX4 22 "BoatSets" "past" "LBoatSets$History;", Cond.methodLink RX4 48 yX2_push, Cond.instanceMethod yX2_push, Cond.selects RX2 yX2_push yX2_push, Cond.initialized RX2, Cond.code yX2_push cX2_push 2 none, Cond.fieldLink RX2 18 "BoatSets$History" "size" "I", Cond.fieldLink RX2 11 "BoatSets$History" "states" "[LBoatSets$Harbour;", Cond.methodLink RX2 22 yX2_dropOldest, Cond.instanceMethod yX2_dropOldest, Cond.selects RX2 yX2_dropOldest yX2_dropOldest, Cond.code yX2_dropOldest cX2_dropOldest 3 none, Cond.methodLink RX2 25 yX1_copyFrom, Cond.instanceMethod yX1_copyFrom, Cond.selects RX1 yX1_copyFrom yX1_copyFrom, Cond.initialized RX1, Cond.code yX1_copyFrom cX1_copyFrom 3 none, Cond.fieldLink RX1 18 "BoatSets$Harbour" "sets" "I", Cond.fieldLink RX1 11 "BoatSets$Harbour" "fleets" "[LBoatSets$Fleet;", Cond.methodLink RX1 22 yX0_copyFrom]
def wsX4_readRanges : List Cond := .code yX4_readRanges cX4_readRanges 6 (some .int) :: ((wsX4_readRanges_r1 ++ (wsX4_readRanges_r2 ++ (wsX4_readRanges_r3 ++ (wsX4_readRanges_r4 ++ wsX4_readRanges_r5)))) ++ wsX40 ++ wsX10 ++ wsX30 ++ wsX00 ++ wsX20)
def wsX4_undo_r1 : List Cond := [Cond.fieldLink RX4 22 "BoatSets" "past" "LBoatSets$History;", Cond.fieldLink RX4 133 "BoatSets$History" "size" "I", Cond.fieldLink RX4 10 "BoatSets" "now" "LBoatSets$Harbour;", Cond.methodLink RX4 136 yX2_popInto, Cond.instanceMethod yX2_popInto, Cond.selects RX2 yX2_popInto yX2_popInto, Cond.initialized RX2, Cond.code yX2_popInto cX2_popInto 2 none, Cond.fieldLink RX2 18 "BoatSets$History" "size" "I", Cond.fieldLink RX2 11 "BoatSets$History" "states" "[LBoatSets$Harbour;", Cond.methodLink RX2 25 yX1_copyFrom, Cond.instanceMethod yX1_copyFrom, Cond.selects RX1 yX1_copyFrom yX1_copyFrom, Cond.initialized RX1, Cond.code yX1_copyFrom cX1_copyFrom 3 none, Cond.fieldLink RX1 18 "BoatSets$Harbour" "sets" "I", Cond.fieldLink RX1 11 "BoatSets$Harbour" "fleets" "[LBoatSets$Fleet;", Cond.methodLink RX1 22 yX0_copyFrom, Cond.instanceMethod yX0_copyFrom, Cond.selects RX0 yX0_copyFrom yX0_copyFrom, Cond.initialized RX0, Cond.code yX0_copyFrom cX0_copyFrom 2 none, Cond.fieldLink RX0 9 "BoatSets$Fleet" "words" "[J", Cond.methodLink RX0 48 arraycopyName]
def wsX4_undo_r2 : List Cond := [Cond.native arraycopyName, Cond.static arraycopyName, Cond.initialized "java/lang/System", Cond.fieldLink RX0 15 "BoatSets$Fleet" "kinds" "[I", Cond.fieldLink RX0 19 "BoatSets$Fleet" "sizes" "[I", Cond.fieldLink RX0 22 "BoatSets$Fleet" "runs" "[I", Cond.fieldLink RX0 28 "BoatSets$Fleet" "purse" "I", Cond.fieldLink RX0 32 "BoatSets$Fleet" "paid" "I", Cond.fieldLink RX0 35 "BoatSets$Fleet" "atSea" "Z"]
def wsX4_undo : List Cond := .code yX4_undo cX4_undo 1 (some .int) :: ((wsX4_undo_r1 ++ wsX4_undo_r2) ++ wsX40 ++ wsX20 ++ wsX10 ++ wsX00)
def wsX4_keep_r1 : List Cond := [Cond.fieldLink RX4 16 "BoatSets" "snapshot" "LBoatSets$Harbour;", Cond.fieldLink RX4 10 "BoatSets" "now" "LBoatSets$Harbour;", Cond.fieldLink RX4 40 "BoatSets" "hasSnapshot" "Z", Cond.fieldLink RX4 44 "BoatSets$Harbour" "sets" "I", Cond.methodLink RX4 139 yX1_copyFrom, Cond.instanceMethod yX1_copyFrom, Cond.selects RX1 yX1_copyFrom yX1_copyFrom, Cond.initialized RX1, Cond.code yX1_copyFrom cX1_copyFrom 3 none, Cond.fieldLink RX1 18 "BoatSets$Harbour" "sets" "I", Cond.fieldLink RX1 11 "BoatSets$Harbour" "fleets" "[LBoatSets$Fleet;", Cond.methodLink RX1 22 yX0_copyFrom, Cond.instanceMethod yX0_copyFrom, Cond.selects RX0 yX0_copyFrom yX0_copyFrom, Cond.initialized RX0, Cond.code yX0_copyFrom cX0_copyFrom 2 none, Cond.fieldLink RX0 9 "BoatSets$Fleet" "words" "[J", Cond.methodLink RX0 48 arraycopyName, Cond.native arraycopyName, Cond.static arraycopyName, Cond.initialized "java/lang/System", Cond.fieldLink RX0 15 "BoatSets$Fleet" "kinds" "[I", Cond.fieldLink RX0 19 "BoatSets$Fleet" "sizes" "[I", Cond.fieldLink RX0 22 "BoatSets$Fleet" "runs" "[I"]
def wsX4_keep_r2 : List Cond := [Cond.fieldLink RX0 28 "BoatSets$Fleet" "purse" "I", Cond.fieldLink RX0 32 "BoatSets$Fleet" "paid" "I", Cond.fieldLink RX0 35 "BoatSets$Fleet" "atSea" "Z"]
def wsX4_keep : List Cond := .code yX4_keep cX4_keep 1 (some .int) :: ((wsX4_keep_r1 ++ wsX4_keep_r2) ++ wsX40 ++ wsX10 ++ wsX00)
def wsX4_restore_r1 : List Cond := [Cond.fieldLink RX4 40 "BoatSets" "hasSnapshot" "Z", Cond.fieldLink RX4 22 "BoatSets" "past" "LBoatSets$History;", Cond.fieldLink RX4 10 "BoatSets" "now" "LBoatSets$Harbour;", Cond.fieldLink RX4 16 "BoatSets" "snapshot" "LBoatSets$Harbour;", Cond.fieldLink RX4 44 "BoatSets$Harbour" "sets" "I", Cond.methodLink RX4 48 yX2_push, Cond.instanceMethod yX2_push, Cond.selects RX2 yX2_push yX2_push, Cond.initialized RX2, Cond.code yX2_push cX2_push 2 none, Cond.fieldLink RX2 18 "BoatSets$History" "size" "I", Cond.fieldLink RX2 11 "BoatSets$History" "states" "[LBoatSets$Harbour;", Cond.methodLink RX2 22 yX2_dropOldest, Cond.instanceMethod yX2_dropOldest, Cond.selects RX2 yX2_dropOldest yX2_dropOldest, Cond.code yX2_dropOldest cX2_dropOldest 3 none, Cond.methodLink RX2 25 yX1_copyFrom, Cond.instanceMethod yX1_copyFrom, Cond.selects RX1 yX1_copyFrom yX1_copyFrom, Cond.initialized RX1, Cond.code yX1_copyFrom cX1_copyFrom 3 none, Cond.fieldLink RX1 18 "BoatSets$Harbour" "sets" "I", Cond.fieldLink RX1 11 "BoatSets$Harbour" "fleets" "[LBoatSets$Fleet;", Cond.methodLink RX1 22 yX0_copyFrom]
def wsX4_restore_r2 : List Cond := [Cond.instanceMethod yX0_copyFrom, Cond.selects RX0 yX0_copyFrom yX0_copyFrom, Cond.initialized RX0, Cond.code yX0_copyFrom cX0_copyFrom 2 none, Cond.fieldLink RX0 9 "BoatSets$Fleet" "words" "[J", Cond.methodLink RX0 48 arraycopyName, Cond.native arraycopyName, Cond.static arraycopyName, Cond.initialized "java/lang/System", Cond.fieldLink RX0 15 "BoatSets$Fleet" "kinds" "[I", Cond.fieldLink RX0 19 "BoatSets$Fleet" "sizes" "[I", Cond.fieldLink RX0 22 "BoatSets$Fleet" "runs" "[I", Cond.fieldLink RX0 28 "BoatSets$Fleet" "purse" "I", Cond.fieldLink RX0 32 "BoatSets$Fleet" "paid" "I", Cond.fieldLink RX0 35 "BoatSets$Fleet" "atSea" "Z", Cond.methodLink RX4 139 yX1_copyFrom]
def wsX4_restore : List Cond := .code yX4_restore cX4_restore 1 (some .int) :: ((wsX4_restore_r1 ++ wsX4_restore_r2) ++ wsX40 ++ wsX10 ++ wsX20 ++ wsX00)
def wsX4_has : List Cond := .code yX4_has cX4_has 3 (some .int) :: ([.fieldLink RX4 10 "BoatSets" "now" "LBoatSets$Harbour;", .fieldLink RX4 60 "BoatSets$Harbour" "fleets" "[LBoatSets$Fleet;", .methodLink RX4 56 yX4_isSet, .instanceMethod yX4_isSet, .selects RX4 yX4_isSet yX4_isSet, .initialized RX4, .code yX4_isSet cX4_isSet 2 (some .boolean), .fieldLink RX4 44 "BoatSets$Harbour" "sets" "I", .methodLink RX4 141 yX4_isNumber, .static yX4_isNumber, .code yX4_isNumber cX4_isNumber 1 (some .boolean), .methodLink RX4 144 yX0_holds, .instanceMethod yX0_holds, .selects RX0 yX0_holds yX0_holds, .initialized RX0, .code yX0_holds cX0_holds 2 (some .boolean), .fieldLink RX0 9 "BoatSets$Fleet" "words" "[J"] ++ wsX40 ++ wsX10 ++ wsX00)
def wsX4_set_r1 : List Cond := [Cond.fieldLink RX4 10 "BoatSets" "now" "LBoatSets$Harbour;", Cond.fieldLink RX4 60 "BoatSets$Harbour" "fleets" "[LBoatSets$Fleet;", Cond.fieldLink RX4 64 "BoatSets$Fleet" "purse" "I", Cond.fieldLink RX4 67 "BoatSets$Fleet" "atSea" "Z", Cond.fieldLink RX4 150 "BoatSets$Fleet" "paid" "I", Cond.methodLink RX4 56 yX4_isSet, Cond.instanceMethod yX4_isSet, Cond.selects RX4 yX4_isSet yX4_isSet, Cond.initialized RX4, Cond.code yX4_isSet cX4_isSet 2 (some .boolean), Cond.fieldLink RX4 44 "BoatSets$Harbour" "sets" "I", Cond.methodLink RX4 99 yX0_numbers, Cond.instanceMethod yX0_numbers, Cond.selects RX0 yX0_numbers yX0_numbers, Cond.initialized RX0, Cond.code yX0_numbers cX0_numbers 3 (some .int), Cond.fieldLink RX0 19 "BoatSets$Fleet" "sizes" "[I", Cond.methodLink RX4 70 yX0_boats, Cond.instanceMethod yX0_boats, Cond.selects RX0 yX0_boats yX0_boats, Cond.code yX0_boats cX0_boats 1 (some .int), Cond.methodLink RX0 101 yX0_boatsOfKind, Cond.instanceMethod yX0_boatsOfKind, Cond.selects RX0 yX0_boatsOfKind yX0_boatsOfKind]
def wsX4_set_r2 : List Cond := [Cond.code yX0_boatsOfKind cX0_boatsOfKind 4 (some .int), Cond.fieldLink RX0 15 "BoatSets$Fleet" "kinds" "[I", Cond.methodLink RX4 147 yX0_units, Cond.instanceMethod yX0_units, Cond.selects RX0 yX0_units yX0_units, Cond.code yX0_units cX0_units 3 (some .int), Cond.methodLink RX0 91 yX0_unitsAs, Cond.instanceMethod yX0_unitsAs, Cond.selects RX0 yX0_unitsAs yX0_unitsAs, Cond.code yX0_unitsAs cX0_unitsAs 3 (some .int), Cond.fieldLink RX0 22 "BoatSets$Fleet" "runs" "[I", Cond.methodLink RX4 153 yX0_allRuns, Cond.instanceMethod yX0_allRuns, Cond.selects RX0 yX0_allRuns yX0_allRuns, Cond.code yX0_allRuns cX0_allRuns 3 (some .int), Cond.methodLink RX4 156 yX0_numberAt, Cond.instanceMethod yX0_numberAt, Cond.selects RX0 yX0_numberAt yX0_numberAt, Cond.code yX0_numberAt cX0_numberAt 5 (some .int), Cond.fieldLink RX0 9 "BoatSets$Fleet" "words" "[J", Cond.methodLink RX0 104 yJ13_bitCount_95d88, Cond.static yJ13_bitCount_95d88, Cond.initialized RJ13, Cond.code yJ13_bitCount_95d88 cJ13_bitCount_95d88 2 (some .int)]
def wsX4_set_r3 : List Cond := [Cond.constantLong RJ13 314 (6148914691236517205), Cond.constantLong RJ13 316 (3689348814741910323), Cond.constantLong RJ13 318 (1085102592571150095), Cond.methodLink RX0 110 yX0_placeOfBit, Cond.static yX0_placeOfBit, Cond.code yX0_placeOfBit cX0_placeOfBit 6 (some .int), Cond.methodLink RX4 159 yX0_bestUnits, Cond.instanceMethod yX0_bestUnits, Cond.selects RX0 yX0_bestUnits yX0_bestUnits, Cond.code yX0_bestUnits cX0_bestUnits 3 (some .int), Cond.methodLink RX0 88 yX0_bestKind, Cond.instanceMethod yX0_bestKind, Cond.selects RX0 yX0_bestKind yX0_bestKind, Cond.code yX0_bestKind cX0_bestKind 3 (some .int), Cond.methodLink RX0 84 yX0_canHold, Cond.instanceMethod yX0_canHold, Cond.selects RX0 yX0_canHold yX0_canHold, Cond.code yX0_canHold cX0_canHold 3 (some .boolean)]
def wsX4_set : List Cond := .code yX4_set cX4_set 4 (some .int) :: ((wsX4_set_r1 ++ (wsX4_set_r2 ++ wsX4_set_r3)) ++ wsX40 ++ wsX10 ++ wsX00)
def wsX4_boat_r1 : List Cond := [Cond.fieldLink RX4 10 "BoatSets" "now" "LBoatSets$Harbour;", Cond.fieldLink RX4 60 "BoatSets$Harbour" "fleets" "[LBoatSets$Fleet;", Cond.fieldLink RX4 85 "BoatSets$Fleet" "sizes" "[I", Cond.fieldLink RX4 81 "BoatSets$Fleet" "kinds" "[I", Cond.fieldLink RX4 162 "BoatSets$Fleet" "runs" "[I", Cond.methodLink RX4 56 yX4_isSet, Cond.instanceMethod yX4_isSet, Cond.selects RX4 yX4_isSet yX4_isSet, Cond.initialized RX4, Cond.code yX4_isSet cX4_isSet 2 (some .boolean), Cond.fieldLink RX4 44 "BoatSets$Harbour" "sets" "I", Cond.methodLink RX4 165 yX0_unitsAs, Cond.instanceMethod yX0_unitsAs, Cond.selects RX0 yX0_unitsAs yX0_unitsAs, Cond.initialized RX0, Cond.code yX0_unitsAs cX0_unitsAs 3 (some .int), Cond.fieldLink RX0 19 "BoatSets$Fleet" "sizes" "[I", Cond.fieldLink RX0 22 "BoatSets$Fleet" "runs" "[I", Cond.methodLink RX4 168 yX0_bestKind, Cond.instanceMethod yX0_bestKind, Cond.selects RX0 yX0_bestKind yX0_bestKind, Cond.code yX0_bestKind cX0_bestKind 3 (some .int), Cond.methodLink RX0 84 yX0_canHold, Cond.instanceMethod yX0_canHold]
def wsX4_boat_r2 : List Cond := [Cond.selects RX0 yX0_canHold yX0_canHold, Cond.code yX0_canHold cX0_canHold 3 (some .boolean), Cond.methodLink RX0 91 yX0_unitsAs, Cond.methodLink RX4 171 yX0_tollToBest, Cond.instanceMethod yX0_tollToBest, Cond.selects RX0 yX0_tollToBest yX0_tollToBest, Cond.code yX0_tollToBest cX0_tollToBest 3 (some .int), Cond.fieldLink RX0 15 "BoatSets$Fleet" "kinds" "[I", Cond.methodLink RX0 88 yX0_bestKind]
def wsX4_boat : List Cond := .code yX4_boat cX4_boat 5 (some .int) :: ((wsX4_boat_r1 ++ wsX4_boat_r2) ++ wsX40 ++ wsX10 ++ wsX00)
def wsX4_rank : List Cond := .code yX4_rank cX4_rank 3 (some .int) :: ([.fieldLink RX4 10 "BoatSets" "now" "LBoatSets$Harbour;", .fieldLink RX4 60 "BoatSets$Harbour" "fleets" "[LBoatSets$Fleet;", .methodLink RX4 56 yX4_isSet, .instanceMethod yX4_isSet, .selects RX4 yX4_isSet yX4_isSet, .initialized RX4, .code yX4_isSet cX4_isSet 2 (some .boolean), .fieldLink RX4 44 "BoatSets$Harbour" "sets" "I", .methodLink RX4 141 yX4_isNumber, .static yX4_isNumber, .code yX4_isNumber cX4_isNumber 1 (some .boolean), .methodLink RX4 174 yX0_numbersBelow, .instanceMethod yX0_numbersBelow, .selects RX0 yX0_numbersBelow yX0_numbersBelow, .initialized RX0, .code yX0_numbersBelow cX0_numbersBelow 6 (some .int), .fieldLink RX0 9 "BoatSets$Fleet" "words" "[J", .methodLink RX0 104 yJ13_bitCount_95d88, .static yJ13_bitCount_95d88, .initialized RJ13, .code yJ13_bitCount_95d88 cJ13_bitCount_95d88 2 (some .int), .constantLong RJ13 314 (6148914691236517205), .constantLong RJ13 316 (3689348814741910323), .constantLong RJ13 318 (1085102592571150095)] ++ wsX40 ++ wsX10 ++ wsX00)
def wsX4_at : List Cond := .code yX4_at cX4_at 3 (some .int) :: ([.fieldLink RX4 10 "BoatSets" "now" "LBoatSets$Harbour;", .fieldLink RX4 60 "BoatSets$Harbour" "fleets" "[LBoatSets$Fleet;", .methodLink RX4 56 yX4_isSet, .instanceMethod yX4_isSet, .selects RX4 yX4_isSet yX4_isSet, .initialized RX4, .code yX4_isSet cX4_isSet 2 (some .boolean), .fieldLink RX4 44 "BoatSets$Harbour" "sets" "I", .methodLink RX4 156 yX0_numberAt, .instanceMethod yX0_numberAt, .selects RX0 yX0_numberAt yX0_numberAt, .initialized RX0, .code yX0_numberAt cX0_numberAt 5 (some .int), .fieldLink RX0 9 "BoatSets$Fleet" "words" "[J", .methodLink RX0 104 yJ13_bitCount_95d88, .static yJ13_bitCount_95d88, .initialized RJ13, .code yJ13_bitCount_95d88 cJ13_bitCount_95d88 2 (some .int), .constantLong RJ13 314 (6148914691236517205), .constantLong RJ13 316 (3689348814741910323), .constantLong RJ13 318 (1085102592571150095), .methodLink RX0 110 yX0_placeOfBit, .static yX0_placeOfBit, .code yX0_placeOfBit cX0_placeOfBit 6 (some .int)] ++ wsX40 ++ wsX10 ++ wsX00)
def wsX4_next_r1 : List Cond := [Cond.fieldLink RX4 10 "BoatSets" "now" "LBoatSets$Harbour;", Cond.fieldLink RX4 60 "BoatSets$Harbour" "fleets" "[LBoatSets$Fleet;", Cond.methodLink RX4 56 yX4_isSet, Cond.instanceMethod yX4_isSet, Cond.selects RX4 yX4_isSet yX4_isSet, Cond.initialized RX4, Cond.code yX4_isSet cX4_isSet 2 (some .boolean), Cond.fieldLink RX4 44 "BoatSets$Harbour" "sets" "I", Cond.methodLink RX4 141 yX4_isNumber, Cond.static yX4_isNumber, Cond.code yX4_isNumber cX4_isNumber 1 (some .boolean), Cond.methodLink RX4 177 yX0_firstFrom, Cond.instanceMethod yX0_firstFrom, Cond.selects RX0 yX0_firstFrom yX0_firstFrom, Cond.initialized RX0, Cond.code yX0_firstFrom cX0_firstFrom 2 (some .int), Cond.methodLink RX0 114 yX0_numbersBelow, Cond.instanceMethod yX0_numbersBelow, Cond.selects RX0 yX0_numbersBelow yX0_numbersBelow, Cond.code yX0_numbersBelow cX0_numbersBelow 6 (some .int), Cond.fieldLink RX0 9 "BoatSets$Fleet" "words" "[J", Cond.methodLink RX0 104 yJ13_bitCount_95d88, Cond.static yJ13_bitCount_95d88, Cond.initialized RJ13]
def wsX4_next_r2 : List Cond := [Cond.code yJ13_bitCount_95d88 cJ13_bitCount_95d88 2 (some .int), Cond.constantLong RJ13 314 (6148914691236517205), Cond.constantLong RJ13 316 (3689348814741910323), Cond.constantLong RJ13 318 (1085102592571150095), Cond.methodLink RX0 117 yX0_numberAt, Cond.instanceMethod yX0_numberAt, Cond.selects RX0 yX0_numberAt yX0_numberAt, Cond.code yX0_numberAt cX0_numberAt 5 (some .int), Cond.methodLink RX0 110 yX0_placeOfBit, Cond.static yX0_placeOfBit, Cond.code yX0_placeOfBit cX0_placeOfBit 6 (some .int)]
def wsX4_next : List Cond := .code yX4_next cX4_next 3 (some .int) :: ((wsX4_next_r1 ++ wsX4_next_r2) ++ wsX40 ++ wsX10 ++ wsX00)
def wsX4_nearest_r1 : List Cond := [Cond.fieldLink RX4 10 "BoatSets" "now" "LBoatSets$Harbour;", Cond.fieldLink RX4 60 "BoatSets$Harbour" "fleets" "[LBoatSets$Fleet;", Cond.methodLink RX4 56 yX4_isSet, Cond.instanceMethod yX4_isSet, Cond.selects RX4 yX4_isSet yX4_isSet, Cond.initialized RX4, Cond.code yX4_isSet cX4_isSet 2 (some .boolean), Cond.fieldLink RX4 44 "BoatSets$Harbour" "sets" "I", Cond.methodLink RX4 141 yX4_isNumber, Cond.static yX4_isNumber, Cond.code yX4_isNumber cX4_isNumber 1 (some .boolean), Cond.methodLink RX4 174 yX0_numbersBelow, Cond.instanceMethod yX0_numbersBelow, Cond.selects RX0 yX0_numbersBelow yX0_numbersBelow, Cond.initialized RX0, Cond.code yX0_numbersBelow cX0_numbersBelow 6 (some .int), Cond.fieldLink RX0 9 "BoatSets$Fleet" "words" "[J", Cond.methodLink RX0 104 yJ13_bitCount_95d88, Cond.static yJ13_bitCount_95d88, Cond.initialized RJ13, Cond.code yJ13_bitCount_95d88 cJ13_bitCount_95d88 2 (some .int), Cond.constantLong RJ13 314 (6148914691236517205), Cond.constantLong RJ13 316 (3689348814741910323), Cond.constantLong RJ13 318 (1085102592571150095)]
def wsX4_nearest_r2 : List Cond := [Cond.methodLink RX4 156 yX0_numberAt, Cond.instanceMethod yX0_numberAt, Cond.selects RX0 yX0_numberAt yX0_numberAt, Cond.code yX0_numberAt cX0_numberAt 5 (some .int), Cond.methodLink RX0 110 yX0_placeOfBit, Cond.static yX0_placeOfBit, Cond.code yX0_placeOfBit cX0_placeOfBit 6 (some .int), Cond.methodLink RX4 177 yX0_firstFrom, Cond.instanceMethod yX0_firstFrom, Cond.selects RX0 yX0_firstFrom yX0_firstFrom, Cond.code yX0_firstFrom cX0_firstFrom 2 (some .int), Cond.methodLink RX0 114 yX0_numbersBelow, Cond.methodLink RX0 117 yX0_numberAt]
def wsX4_nearest : List Cond := .code yX4_nearest cX4_nearest 6 (some .int) :: ((wsX4_nearest_r1 ++ wsX4_nearest_r2) ++ wsX40 ++ wsX10 ++ wsX00)
def wsX4_gap : List Cond := .code yX4_gap cX4_gap 3 (some .int) :: ([.fieldLink RX4 10 "BoatSets" "now" "LBoatSets$Harbour;", .fieldLink RX4 60 "BoatSets$Harbour" "fleets" "[LBoatSets$Fleet;", .methodLink RX4 56 yX4_isSet, .instanceMethod yX4_isSet, .selects RX4 yX4_isSet yX4_isSet, .initialized RX4, .code yX4_isSet cX4_isSet 2 (some .boolean), .fieldLink RX4 44 "BoatSets$Harbour" "sets" "I", .methodLink RX4 180 yX0_firstGap, .instanceMethod yX0_firstGap, .selects RX0 yX0_firstGap yX0_firstGap, .initialized RX0, .code yX0_firstGap cX0_firstGap 4 (some .int), .methodLink RX0 58 yX0_holds, .instanceMethod yX0_holds, .selects RX0 yX0_holds yX0_holds, .code yX0_holds cX0_holds 2 (some .boolean), .fieldLink RX0 9 "BoatSets$Fleet" "words" "[J", .static yX4_isNumber, .code yX4_isNumber cX4_isNumber 1 (some .boolean)] ++ wsX40 ++ wsX10 ++ wsX00)
def wsX4_sizeOf : List Cond := .code yX4_sizeOf cX4_sizeOf 6 (some .int) :: ([.fieldLink RX4 10 "BoatSets" "now" "LBoatSets$Harbour;", .fieldLink RX4 60 "BoatSets$Harbour" "fleets" "[LBoatSets$Fleet;", .fieldLink RX4 183 "BoatSets$Fleet" "words" "[J", .methodLink RX4 56 yX4_isSet, .instanceMethod yX4_isSet, .selects RX4 yX4_isSet yX4_isSet, .initialized RX4, .code yX4_isSet cX4_isSet 2 (some .boolean), .fieldLink RX4 44 "BoatSets$Harbour" "sets" "I", .methodLink RX4 88 yX4_isHow, .static yX4_isHow, .code yX4_isHow cX4_isHow 1 (some .boolean), .methodLink RX4 187 yX4_join, .static yX4_join, .code yX4_join cX4_join 5 (some .long), .constantLong RX4 217 (-1), .methodLink RX4 191 yJ13_bitCount_95d88, .static yJ13_bitCount_95d88, .initialized RJ13, .code yJ13_bitCount_95d88 cJ13_bitCount_95d88 2 (some .int), .constantLong RJ13 314 (6148914691236517205), .constantLong RJ13 316 (3689348814741910323), .constantLong RJ13 318 (1085102592571150095)] ++ wsX40 ++ wsX10 ++ wsX00)
def wsX4_ofAll_r1 : List Cond := [Cond.fieldLink RX4 10 "BoatSets" "now" "LBoatSets$Harbour;", Cond.methodLink RX4 197 yX1_numberOfAll, Cond.instanceMethod yX1_numberOfAll, Cond.selects RX1 yX1_numberOfAll yX1_numberOfAll, Cond.initialized RX1, Cond.code yX1_numberOfAll cX1_numberOfAll 7 (some .int), Cond.methodLink RX1 48 yX1_heldByAny, Cond.instanceMethod yX1_heldByAny, Cond.selects RX1 yX1_heldByAny yX1_heldByAny, Cond.code yX1_heldByAny cX1_heldByAny 5 (some .long), Cond.fieldLink RX1 18 "BoatSets$Harbour" "sets" "I", Cond.fieldLink RX1 11 "BoatSets$Harbour" "fleets" "[LBoatSets$Fleet;", Cond.fieldLink RX1 58 "BoatSets$Fleet" "words" "[J", Cond.methodLink RX1 66 yX1_holders, Cond.instanceMethod yX1_holders, Cond.selects RX1 yX1_holders yX1_holders, Cond.code yX1_holders cX1_holders 4 (some .int), Cond.methodLink RX1 62 yX0_holds, Cond.instanceMethod yX0_holds, Cond.selects RX0 yX0_holds yX0_holds, Cond.initialized RX0, Cond.code yX0_holds cX0_holds 2 (some .boolean), Cond.fieldLink RX0 9 "BoatSets$Fleet" "words" "[J", Cond.static yX4_isNumber]
def wsX4_ofAll_r2 : List Cond := [Cond.initialized RX4, Cond.code yX4_isNumber cX4_isNumber 1 (some .boolean)]
def wsX4_ofAll : List Cond := .code yX4_ofAll cX4_ofAll 2 (some .int) :: ((wsX4_ofAll_r1 ++ wsX4_ofAll_r2) ++ wsX40 ++ wsX10 ++ wsX00)
def wsX4_most_r1 : List Cond := [Cond.fieldLink RX4 10 "BoatSets" "now" "LBoatSets$Harbour;", Cond.methodLink RX4 200 yX1_mostHeld, Cond.instanceMethod yX1_mostHeld, Cond.selects RX1 yX1_mostHeld yX1_mostHeld, Cond.initialized RX1, Cond.code yX1_mostHeld cX1_mostHeld 8 (some .int), Cond.methodLink RX1 48 yX1_heldByAny, Cond.instanceMethod yX1_heldByAny, Cond.selects RX1 yX1_heldByAny yX1_heldByAny, Cond.code yX1_heldByAny cX1_heldByAny 5 (some .long), Cond.fieldLink RX1 18 "BoatSets$Harbour" "sets" "I", Cond.fieldLink RX1 11 "BoatSets$Harbour" "fleets" "[LBoatSets$Fleet;", Cond.fieldLink RX1 58 "BoatSets$Fleet" "words" "[J", Cond.methodLink RX1 66 yX1_holders, Cond.instanceMethod yX1_holders, Cond.selects RX1 yX1_holders yX1_holders, Cond.code yX1_holders cX1_holders 4 (some .int), Cond.methodLink RX1 62 yX0_holds, Cond.instanceMethod yX0_holds, Cond.selects RX0 yX0_holds yX0_holds, Cond.initialized RX0, Cond.code yX0_holds cX0_holds 2 (some .boolean), Cond.fieldLink RX0 9 "BoatSets$Fleet" "words" "[J", Cond.static yX4_isNumber]
def wsX4_most_r2 : List Cond := [Cond.initialized RX4, Cond.code yX4_isNumber cX4_isNumber 1 (some .boolean)]
def wsX4_most : List Cond := .code yX4_most cX4_most 1 (some .int) :: ((wsX4_most_r1 ++ wsX4_most_r2) ++ wsX40 ++ wsX10 ++ wsX00)
def wsX4_tollToDock_r1 : List Cond := [Cond.fieldLink RX4 36 "BoatSets" "trial" "LBoatSets$Fleet;", Cond.fieldLink RX4 10 "BoatSets" "now" "LBoatSets$Harbour;", Cond.fieldLink RX4 60 "BoatSets$Harbour" "fleets" "[LBoatSets$Fleet;", Cond.methodLink RX4 56 yX4_isSet, Cond.instanceMethod yX4_isSet, Cond.selects RX4 yX4_isSet yX4_isSet, Cond.initialized RX4, Cond.code yX4_isSet cX4_isSet 2 (some .boolean), Cond.fieldLink RX4 44 "BoatSets$Harbour" "sets" "I", Cond.methodLink RX4 91 yX0_copyFrom, Cond.instanceMethod yX0_copyFrom, Cond.selects RX0 yX0_copyFrom yX0_copyFrom, Cond.initialized RX0, Cond.code yX0_copyFrom cX0_copyFrom 2 none, Cond.fieldLink RX0 9 "BoatSets$Fleet" "words" "[J", Cond.methodLink RX0 48 arraycopyName, Cond.native arraycopyName, Cond.static arraycopyName, Cond.initialized "java/lang/System", Cond.fieldLink RX0 15 "BoatSets$Fleet" "kinds" "[I", Cond.fieldLink RX0 19 "BoatSets$Fleet" "sizes" "[I", Cond.fieldLink RX0 22 "BoatSets$Fleet" "runs" "[I", Cond.fieldLink RX0 28 "BoatSets$Fleet" "purse" "I", Cond.fieldLink RX0 32 "BoatSets$Fleet" "paid" "I"]
def wsX4_tollToDock_r2 : List Cond := [Cond.fieldLink RX0 35 "BoatSets$Fleet" "atSea" "Z", Cond.methodLink RX4 74 yX0_enterHarbour, Cond.instanceMethod yX0_enterHarbour, Cond.selects RX0 yX0_enterHarbour yX0_enterHarbour, Cond.code yX0_enterHarbour cX0_enterHarbour 5 (some .int), Cond.methodLink RX0 94 yX0_baySavingMost, Cond.instanceMethod yX0_baySavingMost, Cond.selects RX0 yX0_baySavingMost yX0_baySavingMost, Cond.code yX0_baySavingMost cX0_baySavingMost 7 (some .int), Cond.methodLink RX0 88 yX0_bestKind, Cond.instanceMethod yX0_bestKind, Cond.selects RX0 yX0_bestKind yX0_bestKind, Cond.code yX0_bestKind cX0_bestKind 3 (some .int), Cond.methodLink RX0 84 yX0_canHold, Cond.instanceMethod yX0_canHold, Cond.selects RX0 yX0_canHold yX0_canHold, Cond.code yX0_canHold cX0_canHold 3 (some .boolean), Cond.methodLink RX0 91 yX0_unitsAs, Cond.instanceMethod yX0_unitsAs, Cond.selects RX0 yX0_unitsAs yX0_unitsAs, Cond.code yX0_unitsAs cX0_unitsAs 3 (some .int), Cond.methodLink RX0 81 yX0_becomeBest, Cond.instanceMethod yX0_becomeBest, Cond.selects RX0 yX0_becomeBest yX0_becomeBest]
def wsX4_tollToDock_r3 : List Cond := [Cond.code yX0_becomeBest cX0_becomeBest 4 (some .int)]
def wsX4_tollToDock : List Cond := .code yX4_tollToDock cX4_tollToDock 2 (some .int) :: ((wsX4_tollToDock_r1 ++ (wsX4_tollToDock_r2 ++ wsX4_tollToDock_r3)) ++ wsX40 ++ wsX10 ++ wsX00)
def wsX4_count_r1 : List Cond := [Cond.fieldLink RX4 10 "BoatSets" "now" "LBoatSets$Harbour;", Cond.fieldLink RX4 44 "BoatSets$Harbour" "sets" "I", Cond.fieldLink RX4 22 "BoatSets" "past" "LBoatSets$History;", Cond.fieldLink RX4 133 "BoatSets$History" "size" "I", Cond.fieldLink RX4 29 "BoatSets" "text" "LBoatSets$RangeText;", Cond.fieldLink RX4 102 "BoatSets$RangeText" "length" "I", Cond.methodLink RX4 203 yX1_setsAtSea, Cond.instanceMethod yX1_setsAtSea, Cond.selects RX1 yX1_setsAtSea yX1_setsAtSea, Cond.initialized RX1, Cond.code yX1_setsAtSea cX1_setsAtSea 3 (some .int), Cond.fieldLink RX1 18 "BoatSets$Harbour" "sets" "I", Cond.fieldLink RX1 11 "BoatSets$Harbour" "fleets" "[LBoatSets$Fleet;", Cond.fieldLink RX1 30 "BoatSets$Fleet" "atSea" "Z", Cond.methodLink RX4 206 yX1_boatsOfKind, Cond.instanceMethod yX1_boatsOfKind, Cond.selects RX1 yX1_boatsOfKind yX1_boatsOfKind, Cond.code yX1_boatsOfKind cX1_boatsOfKind 4 (some .int), Cond.methodLink RX1 34 yX0_boatsOfKind, Cond.instanceMethod yX0_boatsOfKind, Cond.selects RX0 yX0_boatsOfKind yX0_boatsOfKind, Cond.initialized RX0, Cond.code yX0_boatsOfKind cX0_boatsOfKind 4 (some .int), Cond.fieldLink RX0 19 "BoatSets$Fleet" "sizes" "[I"]
def wsX4_count_r2 : List Cond := [Cond.fieldLink RX0 15 "BoatSets$Fleet" "kinds" "[I", Cond.methodLink RX4 209 yX1_units, Cond.instanceMethod yX1_units, Cond.selects RX1 yX1_units yX1_units, Cond.code yX1_units cX1_units 3 (some .int), Cond.methodLink RX1 38 yX0_units, Cond.instanceMethod yX0_units, Cond.selects RX0 yX0_units yX0_units, Cond.code yX0_units cX0_units 3 (some .int), Cond.methodLink RX0 91 yX0_unitsAs, Cond.instanceMethod yX0_unitsAs, Cond.selects RX0 yX0_unitsAs yX0_unitsAs, Cond.code yX0_unitsAs cX0_unitsAs 3 (some .int), Cond.fieldLink RX0 22 "BoatSets$Fleet" "runs" "[I", Cond.methodLink RX4 210 yX1_numbers, Cond.instanceMethod yX1_numbers, Cond.selects RX1 yX1_numbers yX1_numbers, Cond.code yX1_numbers cX1_numbers 3 (some .int), Cond.methodLink RX1 42 yX0_numbers, Cond.instanceMethod yX0_numbers, Cond.selects RX0 yX0_numbers yX0_numbers, Cond.code yX0_numbers cX0_numbers 3 (some .int), Cond.methodLink RX4 211 yX1_differentNumbers, Cond.instanceMethod yX1_differentNumbers]
def wsX4_count_r3 : List Cond := [Cond.selects RX1 yX1_differentNumbers yX1_differentNumbers, Cond.code yX1_differentNumbers cX1_differentNumbers 3 (some .int), Cond.methodLink RX1 48 yX1_heldByAny, Cond.instanceMethod yX1_heldByAny, Cond.selects RX1 yX1_heldByAny yX1_heldByAny, Cond.code yX1_heldByAny cX1_heldByAny 5 (some .long), Cond.fieldLink RX1 58 "BoatSets$Fleet" "words" "[J", Cond.methodLink RX1 52 yJ13_bitCount_95d88, Cond.static yJ13_bitCount_95d88, Cond.initialized RJ13, Cond.code yJ13_bitCount_95d88 cJ13_bitCount_95d88 2 (some .int), Cond.constantLong RJ13 314 (6148914691236517205), Cond.constantLong RJ13 316 (3689348814741910323), Cond.constantLong RJ13 318 (1085102592571150095), Cond.methodLink RX4 214 yX1_tollsPaid, Cond.instanceMethod yX1_tollsPaid, Cond.selects RX1 yX1_tollsPaid yX1_tollsPaid, Cond.code yX1_tollsPaid cX1_tollsPaid 3 (some .int), Cond.fieldLink RX1 45 "BoatSets$Fleet" "paid" "I"]
def wsX4_count : List Cond := .code yX4_count cX4_count 2 (some .int) :: ((wsX4_count_r1 ++ (wsX4_count_r2 ++ wsX4_count_r3)) ++ wsX40 ++ wsX10 ++ wsX20 ++ wsX30 ++ wsX00)
def wsX5_init : List Cond := .code yX5_init cX5_init 1 none :: ([.methodLink RX5 1 objectInit, .instanceMethod objectInit, .code objectInit ⟨#[0xb1]⟩ 1 none, .arrayClass .int, .fieldLink RX5 7 "BoatSetsModel" "now" "[I", .fieldLink RX5 13 "BoatSetsModel" "past" "[I", .fieldLink RX5 16 "BoatSetsModel" "kept" "[I", .fieldLink RX5 19 "BoatSetsModel" "trial" "[I", .fieldLink RX5 22 "BoatSetsModel" "text" "[I", .fieldLink RX5 25 "BoatSetsModel" "given" "[I", .fieldLink RX5 28 "BoatSetsModel" "numbers" "[I"] ++ wsX50)
def wsX5_in : List Cond := .code yX5_in cX5_in 3 (some .boolean) :: ([])
def wsX5_copies : List Cond := .code yX5_copies cX5_copies 5 none :: ([])
def wsX5_records : List Cond := .code yX5_records cX5_records 3 none :: ([.fieldLink RX5 31 "BoatSetsModel" "pasts" "I", .fieldLink RX5 13 "BoatSetsModel" "past" "[I", .methodLink RX5 35 yX5_copies, .static yX5_copies, .initialized RX5, .code yX5_copies cX5_copies 5 none] ++ wsX50)
def wsX5_isSet : List Cond := .code yX5_isSet cX5_isSet 2 (some .boolean) :: ([.fieldLink RX5 7 "BoatSetsModel" "now" "[I", .methodLink RX5 39 yX5_in, .static yX5_in, .initialized RX5, .code yX5_in cX5_in 3 (some .boolean)] ++ wsX50)
def wsX5_isNumber : List Cond := .code yX5_isNumber cX5_isNumber 1 (some .boolean) :: ([.methodLink RX5 39 yX5_in, .static yX5_in, .initialized RX5, .code yX5_in cX5_in 3 (some .boolean)])
def wsX5_of : List Cond := .code yX5_of cX5_of 3 (some .int) :: ([.fieldLink RX5 7 "BoatSetsModel" "now" "[I"] ++ wsX50)
def wsX5_lays : List Cond := .code yX5_lays cX5_lays 4 none :: ([.fieldLink RX5 7 "BoatSetsModel" "now" "[I"] ++ wsX50)
def wsX5_isIn : List Cond := .code yX5_isIn cX5_isIn 3 (some .boolean) :: ([.methodLink RX5 43 yX5_of, .instanceMethod yX5_of, .selects RX5 yX5_of yX5_of, .initialized RX5, .code yX5_of cX5_of 3 (some .int), .fieldLink RX5 7 "BoatSetsModel" "now" "[I"] ++ wsX50)
def wsX5_puts : List Cond := .code yX5_puts cX5_puts 6 none :: ([.methodLink RX5 43 yX5_of, .instanceMethod yX5_of, .selects RX5 yX5_of yX5_of, .initialized RX5, .code yX5_of cX5_of 3 (some .int), .fieldLink RX5 7 "BoatSetsModel" "now" "[I", .methodLink RX5 47 yX5_lays, .instanceMethod yX5_lays, .selects RX5 yX5_lays yX5_lays, .code yX5_lays cX5_lays 4 none] ++ wsX50)
def wsX5_kindOf : List Cond := .code yX5_kindOf cX5_kindOf 3 (some .int) :: ([.methodLink RX5 43 yX5_of, .instanceMethod yX5_of, .selects RX5 yX5_of yX5_of, .initialized RX5, .code yX5_of cX5_of 3 (some .int), .fieldLink RX5 7 "BoatSetsModel" "now" "[I"] ++ wsX50)
def wsX5_manyIn : List Cond := .code yX5_manyIn cX5_manyIn 5 (some .int) :: ([.methodLink RX5 51 yX5_isIn, .instanceMethod yX5_isIn, .selects RX5 yX5_isIn yX5_isIn, .initialized RX5, .code yX5_isIn cX5_isIn 3 (some .boolean), .methodLink RX5 43 yX5_of, .instanceMethod yX5_of, .selects RX5 yX5_of yX5_of, .code yX5_of cX5_of 3 (some .int), .fieldLink RX5 7 "BoatSetsModel" "now" "[I"] ++ wsX50)
def wsX5_runsIn : List Cond := .code yX5_runsIn cX5_runsIn 5 (some .int) :: ([.methodLink RX5 51 yX5_isIn, .instanceMethod yX5_isIn, .selects RX5 yX5_isIn yX5_isIn, .initialized RX5, .code yX5_isIn cX5_isIn 3 (some .boolean), .methodLink RX5 43 yX5_of, .instanceMethod yX5_of, .selects RX5 yX5_of yX5_of, .code yX5_of cX5_of 3 (some .int), .fieldLink RX5 7 "BoatSetsModel" "now" "[I"] ++ wsX50)
def wsX5_holds : List Cond := .code yX5_holds cX5_holds 3 (some .boolean) :: ([])
def wsX5_units : List Cond := .code yX5_units cX5_units 3 (some .int) :: ([])
def wsX5_best : List Cond := .code yX5_best cX5_best 3 (some .int) :: ([.methodLink RX5 55 yX5_holds, .static yX5_holds, .initialized RX5, .code yX5_holds cX5_holds 3 (some .boolean), .methodLink RX5 58 yX5_units, .static yX5_units, .code yX5_units cX5_units 3 (some .int)])
def wsX5_unitsOf_r1 : List Cond := [Cond.methodLink RX5 62 yX5_kindOf, Cond.instanceMethod yX5_kindOf, Cond.selects RX5 yX5_kindOf yX5_kindOf, Cond.initialized RX5, Cond.code yX5_kindOf cX5_kindOf 3 (some .int), Cond.methodLink RX5 43 yX5_of, Cond.instanceMethod yX5_of, Cond.selects RX5 yX5_of yX5_of, Cond.code yX5_of cX5_of 3 (some .int), Cond.fieldLink RX5 7 "BoatSetsModel" "now" "[I", Cond.methodLink RX5 65 yX5_manyIn, Cond.instanceMethod yX5_manyIn, Cond.selects RX5 yX5_manyIn yX5_manyIn, Cond.code yX5_manyIn cX5_manyIn 5 (some .int), Cond.methodLink RX5 51 yX5_isIn, Cond.instanceMethod yX5_isIn, Cond.selects RX5 yX5_isIn yX5_isIn, Cond.code yX5_isIn cX5_isIn 3 (some .boolean), Cond.methodLink RX5 68 yX5_runsIn, Cond.instanceMethod yX5_runsIn, Cond.selects RX5 yX5_runsIn yX5_runsIn, Cond.code yX5_runsIn cX5_runsIn 5 (some .int), Cond.methodLink RX5 58 yX5_units, Cond.static yX5_units]
def wsX5_unitsOf_r2 : List Cond := [Cond.code yX5_units cX5_units 3 (some .int)]
def wsX5_unitsOf : List Cond := .code yX5_unitsOf cX5_unitsOf 3 (some .int) :: ((wsX5_unitsOf_r1 ++ wsX5_unitsOf_r2) ++ wsX50)
def wsX5_bestOf_r1 : List Cond := [Cond.methodLink RX5 65 yX5_manyIn, Cond.instanceMethod yX5_manyIn, Cond.selects RX5 yX5_manyIn yX5_manyIn, Cond.initialized RX5, Cond.code yX5_manyIn cX5_manyIn 5 (some .int), Cond.methodLink RX5 51 yX5_isIn, Cond.instanceMethod yX5_isIn, Cond.selects RX5 yX5_isIn yX5_isIn, Cond.code yX5_isIn cX5_isIn 3 (some .boolean), Cond.methodLink RX5 43 yX5_of, Cond.instanceMethod yX5_of, Cond.selects RX5 yX5_of yX5_of, Cond.code yX5_of cX5_of 3 (some .int), Cond.fieldLink RX5 7 "BoatSetsModel" "now" "[I", Cond.methodLink RX5 68 yX5_runsIn, Cond.instanceMethod yX5_runsIn, Cond.selects RX5 yX5_runsIn yX5_runsIn, Cond.code yX5_runsIn cX5_runsIn 5 (some .int), Cond.methodLink RX5 71 yX5_best, Cond.static yX5_best, Cond.code yX5_best cX5_best 3 (some .int), Cond.methodLink RX5 55 yX5_holds, Cond.static yX5_holds, Cond.code yX5_holds cX5_holds 3 (some .boolean)]
def wsX5_bestOf_r2 : List Cond := [Cond.methodLink RX5 58 yX5_units, Cond.static yX5_units, Cond.code yX5_units cX5_units 3 (some .int)]
def wsX5_bestOf : List Cond := .code yX5_bestOf cX5_bestOf 3 (some .int) :: ((wsX5_bestOf_r1 ++ wsX5_bestOf_r2) ++ wsX50)
def wsX5_tollOf_r1 : List Cond := [Cond.methodLink RX5 74 yX5_bestOf, Cond.instanceMethod yX5_bestOf, Cond.selects RX5 yX5_bestOf yX5_bestOf, Cond.initialized RX5, Cond.code yX5_bestOf cX5_bestOf 3 (some .int), Cond.methodLink RX5 65 yX5_manyIn, Cond.instanceMethod yX5_manyIn, Cond.selects RX5 yX5_manyIn yX5_manyIn, Cond.code yX5_manyIn cX5_manyIn 5 (some .int), Cond.methodLink RX5 51 yX5_isIn, Cond.instanceMethod yX5_isIn, Cond.selects RX5 yX5_isIn yX5_isIn, Cond.code yX5_isIn cX5_isIn 3 (some .boolean), Cond.methodLink RX5 43 yX5_of, Cond.instanceMethod yX5_of, Cond.selects RX5 yX5_of yX5_of, Cond.code yX5_of cX5_of 3 (some .int), Cond.fieldLink RX5 7 "BoatSetsModel" "now" "[I", Cond.methodLink RX5 68 yX5_runsIn, Cond.instanceMethod yX5_runsIn, Cond.selects RX5 yX5_runsIn yX5_runsIn, Cond.code yX5_runsIn cX5_runsIn 5 (some .int), Cond.methodLink RX5 71 yX5_best, Cond.static yX5_best]
def wsX5_tollOf_r2 : List Cond := [Cond.code yX5_best cX5_best 3 (some .int), Cond.methodLink RX5 55 yX5_holds, Cond.static yX5_holds, Cond.code yX5_holds cX5_holds 3 (some .boolean), Cond.methodLink RX5 58 yX5_units, Cond.static yX5_units, Cond.code yX5_units cX5_units 3 (some .int), Cond.methodLink RX5 62 yX5_kindOf, Cond.instanceMethod yX5_kindOf, Cond.selects RX5 yX5_kindOf yX5_kindOf, Cond.code yX5_kindOf cX5_kindOf 3 (some .int)]
def wsX5_tollOf : List Cond := .code yX5_tollOf cX5_tollOf 4 (some .int) :: ((wsX5_tollOf_r1 ++ wsX5_tollOf_r2) ++ wsX50)
def wsX5_becomes_r1 : List Cond := [Cond.methodLink RX5 77 yX5_tollOf, Cond.instanceMethod yX5_tollOf, Cond.selects RX5 yX5_tollOf yX5_tollOf, Cond.initialized RX5, Cond.code yX5_tollOf cX5_tollOf 4 (some .int), Cond.methodLink RX5 74 yX5_bestOf, Cond.instanceMethod yX5_bestOf, Cond.selects RX5 yX5_bestOf yX5_bestOf, Cond.code yX5_bestOf cX5_bestOf 3 (some .int), Cond.methodLink RX5 65 yX5_manyIn, Cond.instanceMethod yX5_manyIn, Cond.selects RX5 yX5_manyIn yX5_manyIn, Cond.code yX5_manyIn cX5_manyIn 5 (some .int), Cond.methodLink RX5 51 yX5_isIn, Cond.instanceMethod yX5_isIn, Cond.selects RX5 yX5_isIn yX5_isIn, Cond.code yX5_isIn cX5_isIn 3 (some .boolean), Cond.methodLink RX5 43 yX5_of, Cond.instanceMethod yX5_of, Cond.selects RX5 yX5_of yX5_of, Cond.code yX5_of cX5_of 3 (some .int), Cond.fieldLink RX5 7 "BoatSetsModel" "now" "[I", Cond.methodLink RX5 68 yX5_runsIn, Cond.instanceMethod yX5_runsIn]
def wsX5_becomes_r2 : List Cond := [Cond.selects RX5 yX5_runsIn yX5_runsIn, Cond.code yX5_runsIn cX5_runsIn 5 (some .int), Cond.methodLink RX5 71 yX5_best, Cond.static yX5_best, Cond.code yX5_best cX5_best 3 (some .int), Cond.methodLink RX5 55 yX5_holds, Cond.static yX5_holds, Cond.code yX5_holds cX5_holds 3 (some .boolean), Cond.methodLink RX5 58 yX5_units, Cond.static yX5_units, Cond.code yX5_units cX5_units 3 (some .int), Cond.methodLink RX5 62 yX5_kindOf, Cond.instanceMethod yX5_kindOf, Cond.selects RX5 yX5_kindOf yX5_kindOf, Cond.code yX5_kindOf cX5_kindOf 3 (some .int), Cond.methodLink RX5 47 yX5_lays, Cond.instanceMethod yX5_lays, Cond.selects RX5 yX5_lays yX5_lays, Cond.code yX5_lays cX5_lays 4 none]
def wsX5_becomes : List Cond := .code yX5_becomes cX5_becomes 4 none :: ((wsX5_becomes_r1 ++ wsX5_becomes_r2) ++ wsX50)
def wsX5_goes_r1 : List Cond := [Cond.methodLink RX5 80 yX5_puts, Cond.instanceMethod yX5_puts, Cond.selects RX5 yX5_puts yX5_puts, Cond.initialized RX5, Cond.code yX5_puts cX5_puts 6 none, Cond.methodLink RX5 43 yX5_of, Cond.instanceMethod yX5_of, Cond.selects RX5 yX5_of yX5_of, Cond.code yX5_of cX5_of 3 (some .int), Cond.fieldLink RX5 7 "BoatSetsModel" "now" "[I", Cond.methodLink RX5 47 yX5_lays, Cond.instanceMethod yX5_lays, Cond.selects RX5 yX5_lays yX5_lays, Cond.code yX5_lays cX5_lays 4 none, Cond.methodLink RX5 62 yX5_kindOf, Cond.instanceMethod yX5_kindOf, Cond.selects RX5 yX5_kindOf yX5_kindOf, Cond.code yX5_kindOf cX5_kindOf 3 (some .int), Cond.methodLink RX5 65 yX5_manyIn, Cond.instanceMethod yX5_manyIn, Cond.selects RX5 yX5_manyIn yX5_manyIn, Cond.code yX5_manyIn cX5_manyIn 5 (some .int), Cond.methodLink RX5 51 yX5_isIn, Cond.instanceMethod yX5_isIn]
def wsX5_goes_r2 : List Cond := [Cond.selects RX5 yX5_isIn yX5_isIn, Cond.code yX5_isIn cX5_isIn 3 (some .boolean), Cond.methodLink RX5 74 yX5_bestOf, Cond.instanceMethod yX5_bestOf, Cond.selects RX5 yX5_bestOf yX5_bestOf, Cond.code yX5_bestOf cX5_bestOf 3 (some .int), Cond.methodLink RX5 68 yX5_runsIn, Cond.instanceMethod yX5_runsIn, Cond.selects RX5 yX5_runsIn yX5_runsIn, Cond.code yX5_runsIn cX5_runsIn 5 (some .int), Cond.methodLink RX5 71 yX5_best, Cond.static yX5_best, Cond.code yX5_best cX5_best 3 (some .int), Cond.methodLink RX5 55 yX5_holds, Cond.static yX5_holds, Cond.code yX5_holds cX5_holds 3 (some .boolean), Cond.methodLink RX5 58 yX5_units, Cond.static yX5_units, Cond.code yX5_units cX5_units 3 (some .int), Cond.methodLink RX5 77 yX5_tollOf, Cond.instanceMethod yX5_tollOf, Cond.selects RX5 yX5_tollOf yX5_tollOf, Cond.code yX5_tollOf cX5_tollOf 4 (some .int), Cond.methodLink RX5 84 yX5_becomes]
def wsX5_goes_r3 : List Cond := [Cond.instanceMethod yX5_becomes, Cond.selects RX5 yX5_becomes yX5_becomes, Cond.code yX5_becomes cX5_becomes 4 none]
def wsX5_goes : List Cond := .code yX5_goes cX5_goes 5 (some .boolean) :: ((wsX5_goes_r1 ++ (wsX5_goes_r2 ++ wsX5_goes_r3)) ++ wsX50)
def wsX5_newSet : List Cond := .code yX5_newSet cX5_newSet 2 (some .int) :: ([.fieldLink RX5 7 "BoatSetsModel" "now" "[I", .methodLink RX5 39 yX5_in, .static yX5_in, .initialized RX5, .code yX5_in cX5_in 3 (some .boolean), .methodLink RX5 88 yX5_records, .instanceMethod yX5_records, .selects RX5 yX5_records yX5_records, .code yX5_records cX5_records 3 none, .fieldLink RX5 31 "BoatSetsModel" "pasts" "I", .fieldLink RX5 13 "BoatSetsModel" "past" "[I", .methodLink RX5 35 yX5_copies, .static yX5_copies, .code yX5_copies cX5_copies 5 none, .methodLink RX5 47 yX5_lays, .instanceMethod yX5_lays, .selects RX5 yX5_lays yX5_lays, .code yX5_lays cX5_lays 4 none] ++ wsX50)
def wsX5_pay_r1 : List Cond := [Cond.fieldLink RX5 7 "BoatSetsModel" "now" "[I", Cond.methodLink RX5 92 yX5_isSet, Cond.instanceMethod yX5_isSet, Cond.selects RX5 yX5_isSet yX5_isSet, Cond.initialized RX5, Cond.code yX5_isSet cX5_isSet 2 (some .boolean), Cond.methodLink RX5 39 yX5_in, Cond.static yX5_in, Cond.code yX5_in cX5_in 3 (some .boolean), Cond.methodLink RX5 43 yX5_of, Cond.instanceMethod yX5_of, Cond.selects RX5 yX5_of yX5_of, Cond.code yX5_of cX5_of 3 (some .int), Cond.methodLink RX5 88 yX5_records, Cond.instanceMethod yX5_records, Cond.selects RX5 yX5_records yX5_records, Cond.code yX5_records cX5_records 3 none, Cond.fieldLink RX5 31 "BoatSetsModel" "pasts" "I", Cond.fieldLink RX5 13 "BoatSetsModel" "past" "[I", Cond.methodLink RX5 35 yX5_copies, Cond.static yX5_copies, Cond.code yX5_copies cX5_copies 5 none, Cond.methodLink RX5 47 yX5_lays, Cond.instanceMethod yX5_lays]
def wsX5_pay_r2 : List Cond := [Cond.selects RX5 yX5_lays yX5_lays, Cond.code yX5_lays cX5_lays 4 none]
def wsX5_pay : List Cond := .code yX5_pay cX5_pay 3 (some .int) :: ((wsX5_pay_r1 ++ wsX5_pay_r2) ++ wsX50)
def wsX5_boatsOf : List Cond := .code yX5_boatsOf cX5_boatsOf 4 (some .int) :: ([.methodLink RX5 62 yX5_kindOf, .instanceMethod yX5_kindOf, .selects RX5 yX5_kindOf yX5_kindOf, .initialized RX5, .code yX5_kindOf cX5_kindOf 3 (some .int), .methodLink RX5 43 yX5_of, .instanceMethod yX5_of, .selects RX5 yX5_of yX5_of, .code yX5_of cX5_of 3 (some .int), .fieldLink RX5 7 "BoatSetsModel" "now" "[I"] ++ wsX50)
def wsX5_sail_r1 : List Cond := [Cond.fieldLink RX5 7 "BoatSetsModel" "now" "[I", Cond.methodLink RX5 92 yX5_isSet, Cond.instanceMethod yX5_isSet, Cond.selects RX5 yX5_isSet yX5_isSet, Cond.initialized RX5, Cond.code yX5_isSet cX5_isSet 2 (some .boolean), Cond.methodLink RX5 39 yX5_in, Cond.static yX5_in, Cond.code yX5_in cX5_in 3 (some .boolean), Cond.methodLink RX5 43 yX5_of, Cond.instanceMethod yX5_of, Cond.selects RX5 yX5_of yX5_of, Cond.code yX5_of cX5_of 3 (some .int), Cond.methodLink RX5 88 yX5_records, Cond.instanceMethod yX5_records, Cond.selects RX5 yX5_records yX5_records, Cond.code yX5_records cX5_records 3 none, Cond.fieldLink RX5 31 "BoatSetsModel" "pasts" "I", Cond.fieldLink RX5 13 "BoatSetsModel" "past" "[I", Cond.methodLink RX5 35 yX5_copies, Cond.static yX5_copies, Cond.code yX5_copies cX5_copies 5 none, Cond.methodLink RX5 47 yX5_lays, Cond.instanceMethod yX5_lays]
def wsX5_sail_r2 : List Cond := [Cond.selects RX5 yX5_lays yX5_lays, Cond.code yX5_lays cX5_lays 4 none, Cond.methodLink RX5 96 yX5_boatsOf, Cond.instanceMethod yX5_boatsOf, Cond.selects RX5 yX5_boatsOf yX5_boatsOf, Cond.code yX5_boatsOf cX5_boatsOf 4 (some .int), Cond.methodLink RX5 62 yX5_kindOf, Cond.instanceMethod yX5_kindOf, Cond.selects RX5 yX5_kindOf yX5_kindOf, Cond.code yX5_kindOf cX5_kindOf 3 (some .int)]
def wsX5_sail : List Cond := .code yX5_sail cX5_sail 2 (some .int) :: ((wsX5_sail_r1 ++ wsX5_sail_r2) ++ wsX50)
def wsX5_nextToDock_r1 : List Cond := [Cond.fieldLink RX5 100 "BoatSetsModel" "looked" "I", Cond.methodLink RX5 62 yX5_kindOf, Cond.instanceMethod yX5_kindOf, Cond.selects RX5 yX5_kindOf yX5_kindOf, Cond.initialized RX5, Cond.code yX5_kindOf cX5_kindOf 3 (some .int), Cond.methodLink RX5 43 yX5_of, Cond.instanceMethod yX5_of, Cond.selects RX5 yX5_of yX5_of, Cond.code yX5_of cX5_of 3 (some .int), Cond.fieldLink RX5 7 "BoatSetsModel" "now" "[I", Cond.methodLink RX5 77 yX5_tollOf, Cond.instanceMethod yX5_tollOf, Cond.selects RX5 yX5_tollOf yX5_tollOf, Cond.code yX5_tollOf cX5_tollOf 4 (some .int), Cond.methodLink RX5 74 yX5_bestOf, Cond.instanceMethod yX5_bestOf, Cond.selects RX5 yX5_bestOf yX5_bestOf, Cond.code yX5_bestOf cX5_bestOf 3 (some .int), Cond.methodLink RX5 65 yX5_manyIn, Cond.instanceMethod yX5_manyIn, Cond.selects RX5 yX5_manyIn yX5_manyIn, Cond.code yX5_manyIn cX5_manyIn 5 (some .int), Cond.methodLink RX5 51 yX5_isIn]
def wsX5_nextToDock_r2 : List Cond := [Cond.instanceMethod yX5_isIn, Cond.selects RX5 yX5_isIn yX5_isIn, Cond.code yX5_isIn cX5_isIn 3 (some .boolean), Cond.methodLink RX5 68 yX5_runsIn, Cond.instanceMethod yX5_runsIn, Cond.selects RX5 yX5_runsIn yX5_runsIn, Cond.code yX5_runsIn cX5_runsIn 5 (some .int), Cond.methodLink RX5 71 yX5_best, Cond.static yX5_best, Cond.code yX5_best cX5_best 3 (some .int), Cond.methodLink RX5 55 yX5_holds, Cond.static yX5_holds, Cond.code yX5_holds cX5_holds 3 (some .boolean), Cond.methodLink RX5 58 yX5_units, Cond.static yX5_units, Cond.code yX5_units cX5_units 3 (some .int), Cond.methodLink RX5 103 yX5_unitsOf, Cond.instanceMethod yX5_unitsOf, Cond.selects RX5 yX5_unitsOf yX5_unitsOf, Cond.code yX5_unitsOf cX5_unitsOf 3 (some .int)]
def wsX5_nextToDock : List Cond := .code yX5_nextToDock cX5_nextToDock 7 (some .int) :: ((wsX5_nextToDock_r1 ++ wsX5_nextToDock_r2) ++ wsX50)
def wsX5_docks_r1 : List Cond := [Cond.fieldLink RX5 100 "BoatSetsModel" "looked" "I", Cond.methodLink RX5 43 yX5_of, Cond.instanceMethod yX5_of, Cond.selects RX5 yX5_of yX5_of, Cond.initialized RX5, Cond.code yX5_of cX5_of 3 (some .int), Cond.fieldLink RX5 7 "BoatSetsModel" "now" "[I", Cond.methodLink RX5 47 yX5_lays, Cond.instanceMethod yX5_lays, Cond.selects RX5 yX5_lays yX5_lays, Cond.code yX5_lays cX5_lays 4 none, Cond.methodLink RX5 106 yX5_nextToDock, Cond.instanceMethod yX5_nextToDock, Cond.selects RX5 yX5_nextToDock yX5_nextToDock, Cond.code yX5_nextToDock cX5_nextToDock 7 (some .int), Cond.methodLink RX5 62 yX5_kindOf, Cond.instanceMethod yX5_kindOf, Cond.selects RX5 yX5_kindOf yX5_kindOf, Cond.code yX5_kindOf cX5_kindOf 3 (some .int), Cond.methodLink RX5 77 yX5_tollOf, Cond.instanceMethod yX5_tollOf, Cond.selects RX5 yX5_tollOf yX5_tollOf, Cond.code yX5_tollOf cX5_tollOf 4 (some .int), Cond.methodLink RX5 74 yX5_bestOf]
def wsX5_docks_r2 : List Cond := [Cond.instanceMethod yX5_bestOf, Cond.selects RX5 yX5_bestOf yX5_bestOf, Cond.code yX5_bestOf cX5_bestOf 3 (some .int), Cond.methodLink RX5 65 yX5_manyIn, Cond.instanceMethod yX5_manyIn, Cond.selects RX5 yX5_manyIn yX5_manyIn, Cond.code yX5_manyIn cX5_manyIn 5 (some .int), Cond.methodLink RX5 51 yX5_isIn, Cond.instanceMethod yX5_isIn, Cond.selects RX5 yX5_isIn yX5_isIn, Cond.code yX5_isIn cX5_isIn 3 (some .boolean), Cond.methodLink RX5 68 yX5_runsIn, Cond.instanceMethod yX5_runsIn, Cond.selects RX5 yX5_runsIn yX5_runsIn, Cond.code yX5_runsIn cX5_runsIn 5 (some .int), Cond.methodLink RX5 71 yX5_best, Cond.static yX5_best, Cond.code yX5_best cX5_best 3 (some .int), Cond.methodLink RX5 55 yX5_holds, Cond.static yX5_holds, Cond.code yX5_holds cX5_holds 3 (some .boolean), Cond.methodLink RX5 58 yX5_units, Cond.static yX5_units, Cond.code yX5_units cX5_units 3 (some .int)]
def wsX5_docks_r3 : List Cond := [Cond.methodLink RX5 103 yX5_unitsOf, Cond.instanceMethod yX5_unitsOf, Cond.selects RX5 yX5_unitsOf yX5_unitsOf, Cond.code yX5_unitsOf cX5_unitsOf 3 (some .int), Cond.methodLink RX5 84 yX5_becomes, Cond.instanceMethod yX5_becomes, Cond.selects RX5 yX5_becomes yX5_becomes, Cond.code yX5_becomes cX5_becomes 4 none]
def wsX5_docks : List Cond := .code yX5_docks cX5_docks 4 (some .int) :: ((wsX5_docks_r1 ++ (wsX5_docks_r2 ++ wsX5_docks_r3)) ++ wsX50)
def wsX5_dock_r1 : List Cond := [Cond.fieldLink RX5 7 "BoatSetsModel" "now" "[I", Cond.methodLink RX5 92 yX5_isSet, Cond.instanceMethod yX5_isSet, Cond.selects RX5 yX5_isSet yX5_isSet, Cond.initialized RX5, Cond.code yX5_isSet cX5_isSet 2 (some .boolean), Cond.methodLink RX5 39 yX5_in, Cond.static yX5_in, Cond.code yX5_in cX5_in 3 (some .boolean), Cond.methodLink RX5 88 yX5_records, Cond.instanceMethod yX5_records, Cond.selects RX5 yX5_records yX5_records, Cond.code yX5_records cX5_records 3 none, Cond.fieldLink RX5 31 "BoatSetsModel" "pasts" "I", Cond.fieldLink RX5 13 "BoatSetsModel" "past" "[I", Cond.methodLink RX5 35 yX5_copies, Cond.static yX5_copies, Cond.code yX5_copies cX5_copies 5 none, Cond.methodLink RX5 109 yX5_docks, Cond.instanceMethod yX5_docks, Cond.selects RX5 yX5_docks yX5_docks, Cond.code yX5_docks cX5_docks 4 (some .int), Cond.fieldLink RX5 100 "BoatSetsModel" "looked" "I", Cond.methodLink RX5 43 yX5_of]
def wsX5_dock_r2 : List Cond := [Cond.instanceMethod yX5_of, Cond.selects RX5 yX5_of yX5_of, Cond.code yX5_of cX5_of 3 (some .int), Cond.methodLink RX5 47 yX5_lays, Cond.instanceMethod yX5_lays, Cond.selects RX5 yX5_lays yX5_lays, Cond.code yX5_lays cX5_lays 4 none, Cond.methodLink RX5 106 yX5_nextToDock, Cond.instanceMethod yX5_nextToDock, Cond.selects RX5 yX5_nextToDock yX5_nextToDock, Cond.code yX5_nextToDock cX5_nextToDock 7 (some .int), Cond.methodLink RX5 62 yX5_kindOf, Cond.instanceMethod yX5_kindOf, Cond.selects RX5 yX5_kindOf yX5_kindOf, Cond.code yX5_kindOf cX5_kindOf 3 (some .int), Cond.methodLink RX5 77 yX5_tollOf, Cond.instanceMethod yX5_tollOf, Cond.selects RX5 yX5_tollOf yX5_tollOf, Cond.code yX5_tollOf cX5_tollOf 4 (some .int), Cond.methodLink RX5 74 yX5_bestOf, Cond.instanceMethod yX5_bestOf, Cond.selects RX5 yX5_bestOf yX5_bestOf, Cond.code yX5_bestOf cX5_bestOf 3 (some .int), Cond.methodLink RX5 65 yX5_manyIn]
def wsX5_dock_r3 : List Cond := [Cond.instanceMethod yX5_manyIn, Cond.selects RX5 yX5_manyIn yX5_manyIn, Cond.code yX5_manyIn cX5_manyIn 5 (some .int), Cond.methodLink RX5 51 yX5_isIn, Cond.instanceMethod yX5_isIn, Cond.selects RX5 yX5_isIn yX5_isIn, Cond.code yX5_isIn cX5_isIn 3 (some .boolean), Cond.methodLink RX5 68 yX5_runsIn, Cond.instanceMethod yX5_runsIn, Cond.selects RX5 yX5_runsIn yX5_runsIn, Cond.code yX5_runsIn cX5_runsIn 5 (some .int), Cond.methodLink RX5 71 yX5_best, Cond.static yX5_best, Cond.code yX5_best cX5_best 3 (some .int), Cond.methodLink RX5 55 yX5_holds, Cond.static yX5_holds, Cond.code yX5_holds cX5_holds 3 (some .boolean), Cond.methodLink RX5 58 yX5_units, Cond.static yX5_units, Cond.code yX5_units cX5_units 3 (some .int), Cond.methodLink RX5 103 yX5_unitsOf, Cond.instanceMethod yX5_unitsOf, Cond.selects RX5 yX5_unitsOf yX5_unitsOf, Cond.code yX5_unitsOf cX5_unitsOf 3 (some .int)]
def wsX5_dock_r4 : List Cond := [Cond.methodLink RX5 84 yX5_becomes, Cond.instanceMethod yX5_becomes, Cond.selects RX5 yX5_becomes yX5_becomes, Cond.code yX5_becomes cX5_becomes 4 none]
def wsX5_dock : List Cond := .code yX5_dock cX5_dock 2 (some .int) :: ((wsX5_dock_r1 ++ (wsX5_dock_r2 ++ (wsX5_dock_r3 ++ wsX5_dock_r4))) ++ wsX50)
def wsX5_add_r1 : List Cond := [Cond.fieldLink RX5 7 "BoatSetsModel" "now" "[I", Cond.fieldLink RX5 19 "BoatSetsModel" "trial" "[I", Cond.methodLink RX5 92 yX5_isSet, Cond.instanceMethod yX5_isSet, Cond.selects RX5 yX5_isSet yX5_isSet, Cond.initialized RX5, Cond.code yX5_isSet cX5_isSet 2 (some .boolean), Cond.methodLink RX5 39 yX5_in, Cond.static yX5_in, Cond.code yX5_in cX5_in 3 (some .boolean), Cond.methodLink RX5 112 yX5_isNumber, Cond.static yX5_isNumber, Cond.code yX5_isNumber cX5_isNumber 1 (some .boolean), Cond.methodLink RX5 51 yX5_isIn, Cond.instanceMethod yX5_isIn, Cond.selects RX5 yX5_isIn yX5_isIn, Cond.code yX5_isIn cX5_isIn 3 (some .boolean), Cond.methodLink RX5 43 yX5_of, Cond.instanceMethod yX5_of, Cond.selects RX5 yX5_of yX5_of, Cond.code yX5_of cX5_of 3 (some .int), Cond.methodLink RX5 35 yX5_copies, Cond.static yX5_copies, Cond.code yX5_copies cX5_copies 5 none]
def wsX5_add_r2 : List Cond := [Cond.methodLink RX5 115 yX5_goes, Cond.instanceMethod yX5_goes, Cond.selects RX5 yX5_goes yX5_goes, Cond.code yX5_goes cX5_goes 5 (some .boolean), Cond.methodLink RX5 80 yX5_puts, Cond.instanceMethod yX5_puts, Cond.selects RX5 yX5_puts yX5_puts, Cond.code yX5_puts cX5_puts 6 none, Cond.methodLink RX5 47 yX5_lays, Cond.instanceMethod yX5_lays, Cond.selects RX5 yX5_lays yX5_lays, Cond.code yX5_lays cX5_lays 4 none, Cond.methodLink RX5 62 yX5_kindOf, Cond.instanceMethod yX5_kindOf, Cond.selects RX5 yX5_kindOf yX5_kindOf, Cond.code yX5_kindOf cX5_kindOf 3 (some .int), Cond.methodLink RX5 65 yX5_manyIn, Cond.instanceMethod yX5_manyIn, Cond.selects RX5 yX5_manyIn yX5_manyIn, Cond.code yX5_manyIn cX5_manyIn 5 (some .int), Cond.methodLink RX5 74 yX5_bestOf, Cond.instanceMethod yX5_bestOf, Cond.selects RX5 yX5_bestOf yX5_bestOf, Cond.code yX5_bestOf cX5_bestOf 3 (some .int)]
def wsX5_add_r3 : List Cond := [Cond.methodLink RX5 68 yX5_runsIn, Cond.instanceMethod yX5_runsIn, Cond.selects RX5 yX5_runsIn yX5_runsIn, Cond.code yX5_runsIn cX5_runsIn 5 (some .int), Cond.methodLink RX5 71 yX5_best, Cond.static yX5_best, Cond.code yX5_best cX5_best 3 (some .int), Cond.methodLink RX5 55 yX5_holds, Cond.static yX5_holds, Cond.code yX5_holds cX5_holds 3 (some .boolean), Cond.methodLink RX5 58 yX5_units, Cond.static yX5_units, Cond.code yX5_units cX5_units 3 (some .int), Cond.methodLink RX5 77 yX5_tollOf, Cond.instanceMethod yX5_tollOf, Cond.selects RX5 yX5_tollOf yX5_tollOf, Cond.code yX5_tollOf cX5_tollOf 4 (some .int), Cond.methodLink RX5 84 yX5_becomes, Cond.instanceMethod yX5_becomes, Cond.selects RX5 yX5_becomes yX5_becomes, Cond.code yX5_becomes cX5_becomes 4 none, Cond.methodLink RX5 88 yX5_records, Cond.instanceMethod yX5_records, Cond.selects RX5 yX5_records yX5_records]
def wsX5_add_r4 : List Cond := [Cond.code yX5_records cX5_records 3 none, Cond.fieldLink RX5 31 "BoatSetsModel" "pasts" "I", Cond.fieldLink RX5 13 "BoatSetsModel" "past" "[I"]
def wsX5_add : List Cond := .code yX5_add cX5_add 3 (some .int) :: ((wsX5_add_r1 ++ (wsX5_add_r2 ++ (wsX5_add_r3 ++ wsX5_add_r4))) ++ wsX50)
def wsX5_remove_r1 : List Cond := [Cond.fieldLink RX5 7 "BoatSetsModel" "now" "[I", Cond.fieldLink RX5 19 "BoatSetsModel" "trial" "[I", Cond.methodLink RX5 92 yX5_isSet, Cond.instanceMethod yX5_isSet, Cond.selects RX5 yX5_isSet yX5_isSet, Cond.initialized RX5, Cond.code yX5_isSet cX5_isSet 2 (some .boolean), Cond.methodLink RX5 39 yX5_in, Cond.static yX5_in, Cond.code yX5_in cX5_in 3 (some .boolean), Cond.methodLink RX5 112 yX5_isNumber, Cond.static yX5_isNumber, Cond.code yX5_isNumber cX5_isNumber 1 (some .boolean), Cond.methodLink RX5 51 yX5_isIn, Cond.instanceMethod yX5_isIn, Cond.selects RX5 yX5_isIn yX5_isIn, Cond.code yX5_isIn cX5_isIn 3 (some .boolean), Cond.methodLink RX5 43 yX5_of, Cond.instanceMethod yX5_of, Cond.selects RX5 yX5_of yX5_of, Cond.code yX5_of cX5_of 3 (some .int), Cond.methodLink RX5 35 yX5_copies, Cond.static yX5_copies, Cond.code yX5_copies cX5_copies 5 none]
def wsX5_remove_r2 : List Cond := [Cond.methodLink RX5 115 yX5_goes, Cond.instanceMethod yX5_goes, Cond.selects RX5 yX5_goes yX5_goes, Cond.code yX5_goes cX5_goes 5 (some .boolean), Cond.methodLink RX5 80 yX5_puts, Cond.instanceMethod yX5_puts, Cond.selects RX5 yX5_puts yX5_puts, Cond.code yX5_puts cX5_puts 6 none, Cond.methodLink RX5 47 yX5_lays, Cond.instanceMethod yX5_lays, Cond.selects RX5 yX5_lays yX5_lays, Cond.code yX5_lays cX5_lays 4 none, Cond.methodLink RX5 62 yX5_kindOf, Cond.instanceMethod yX5_kindOf, Cond.selects RX5 yX5_kindOf yX5_kindOf, Cond.code yX5_kindOf cX5_kindOf 3 (some .int), Cond.methodLink RX5 65 yX5_manyIn, Cond.instanceMethod yX5_manyIn, Cond.selects RX5 yX5_manyIn yX5_manyIn, Cond.code yX5_manyIn cX5_manyIn 5 (some .int), Cond.methodLink RX5 74 yX5_bestOf, Cond.instanceMethod yX5_bestOf, Cond.selects RX5 yX5_bestOf yX5_bestOf, Cond.code yX5_bestOf cX5_bestOf 3 (some .int)]
def wsX5_remove_r3 : List Cond := [Cond.methodLink RX5 68 yX5_runsIn, Cond.instanceMethod yX5_runsIn, Cond.selects RX5 yX5_runsIn yX5_runsIn, Cond.code yX5_runsIn cX5_runsIn 5 (some .int), Cond.methodLink RX5 71 yX5_best, Cond.static yX5_best, Cond.code yX5_best cX5_best 3 (some .int), Cond.methodLink RX5 55 yX5_holds, Cond.static yX5_holds, Cond.code yX5_holds cX5_holds 3 (some .boolean), Cond.methodLink RX5 58 yX5_units, Cond.static yX5_units, Cond.code yX5_units cX5_units 3 (some .int), Cond.methodLink RX5 77 yX5_tollOf, Cond.instanceMethod yX5_tollOf, Cond.selects RX5 yX5_tollOf yX5_tollOf, Cond.code yX5_tollOf cX5_tollOf 4 (some .int), Cond.methodLink RX5 84 yX5_becomes, Cond.instanceMethod yX5_becomes, Cond.selects RX5 yX5_becomes yX5_becomes, Cond.code yX5_becomes cX5_becomes 4 none, Cond.methodLink RX5 88 yX5_records, Cond.instanceMethod yX5_records, Cond.selects RX5 yX5_records yX5_records]
def wsX5_remove_r4 : List Cond := [Cond.code yX5_records cX5_records 3 none, Cond.fieldLink RX5 31 "BoatSetsModel" "pasts" "I", Cond.fieldLink RX5 13 "BoatSetsModel" "past" "[I"]
def wsX5_remove : List Cond := .code yX5_remove cX5_remove 3 (some .int) :: ((wsX5_remove_r1 ++ (wsX5_remove_r2 ++ (wsX5_remove_r3 ++ wsX5_remove_r4))) ++ wsX50)
def wsX5_goesAll_r1 : List Cond := [Cond.methodLink RX5 51 yX5_isIn, Cond.instanceMethod yX5_isIn, Cond.selects RX5 yX5_isIn yX5_isIn, Cond.initialized RX5, Cond.code yX5_isIn cX5_isIn 3 (some .boolean), Cond.methodLink RX5 43 yX5_of, Cond.instanceMethod yX5_of, Cond.selects RX5 yX5_of yX5_of, Cond.code yX5_of cX5_of 3 (some .int), Cond.fieldLink RX5 7 "BoatSetsModel" "now" "[I", Cond.methodLink RX5 115 yX5_goes, Cond.instanceMethod yX5_goes, Cond.selects RX5 yX5_goes yX5_goes, Cond.code yX5_goes cX5_goes 5 (some .boolean), Cond.methodLink RX5 80 yX5_puts, Cond.instanceMethod yX5_puts, Cond.selects RX5 yX5_puts yX5_puts, Cond.code yX5_puts cX5_puts 6 none, Cond.methodLink RX5 47 yX5_lays, Cond.instanceMethod yX5_lays, Cond.selects RX5 yX5_lays yX5_lays, Cond.code yX5_lays cX5_lays 4 none, Cond.methodLink RX5 62 yX5_kindOf, Cond.instanceMethod yX5_kindOf]
def wsX5_goesAll_r2 : List Cond := [Cond.selects RX5 yX5_kindOf yX5_kindOf, Cond.code yX5_kindOf cX5_kindOf 3 (some .int), Cond.methodLink RX5 65 yX5_manyIn, Cond.instanceMethod yX5_manyIn, Cond.selects RX5 yX5_manyIn yX5_manyIn, Cond.code yX5_manyIn cX5_manyIn 5 (some .int), Cond.methodLink RX5 74 yX5_bestOf, Cond.instanceMethod yX5_bestOf, Cond.selects RX5 yX5_bestOf yX5_bestOf, Cond.code yX5_bestOf cX5_bestOf 3 (some .int), Cond.methodLink RX5 68 yX5_runsIn, Cond.instanceMethod yX5_runsIn, Cond.selects RX5 yX5_runsIn yX5_runsIn, Cond.code yX5_runsIn cX5_runsIn 5 (some .int), Cond.methodLink RX5 71 yX5_best, Cond.static yX5_best, Cond.code yX5_best cX5_best 3 (some .int), Cond.methodLink RX5 55 yX5_holds, Cond.static yX5_holds, Cond.code yX5_holds cX5_holds 3 (some .boolean), Cond.methodLink RX5 58 yX5_units, Cond.static yX5_units, Cond.code yX5_units cX5_units 3 (some .int), Cond.methodLink RX5 77 yX5_tollOf]
def wsX5_goesAll_r3 : List Cond := [Cond.instanceMethod yX5_tollOf, Cond.selects RX5 yX5_tollOf yX5_tollOf, Cond.code yX5_tollOf cX5_tollOf 4 (some .int), Cond.methodLink RX5 84 yX5_becomes, Cond.instanceMethod yX5_becomes, Cond.selects RX5 yX5_becomes yX5_becomes, Cond.code yX5_becomes cX5_becomes 4 none]
def wsX5_goesAll : List Cond := .code yX5_goesAll cX5_goesAll 7 (some .int) :: ((wsX5_goesAll_r1 ++ (wsX5_goesAll_r2 ++ wsX5_goesAll_r3)) ++ wsX50)
def wsX5_ends : List Cond := .code yX5_ends cX5_ends 2 (some .int) :: ([.fieldLink RX5 19 "BoatSetsModel" "trial" "[I", .fieldLink RX5 7 "BoatSetsModel" "now" "[I", .methodLink RX5 35 yX5_copies, .static yX5_copies, .initialized RX5, .code yX5_copies cX5_copies 5 none, .methodLink RX5 88 yX5_records, .instanceMethod yX5_records, .selects RX5 yX5_records yX5_records, .code yX5_records cX5_records 3 none, .fieldLink RX5 31 "BoatSetsModel" "pasts" "I", .fieldLink RX5 13 "BoatSetsModel" "past" "[I"] ++ wsX50)
def wsX5_ranges_r1 : List Cond := [Cond.fieldLink RX5 7 "BoatSetsModel" "now" "[I", Cond.fieldLink RX5 19 "BoatSetsModel" "trial" "[I", Cond.methodLink RX5 92 yX5_isSet, Cond.instanceMethod yX5_isSet, Cond.selects RX5 yX5_isSet yX5_isSet, Cond.initialized RX5, Cond.code yX5_isSet cX5_isSet 2 (some .boolean), Cond.methodLink RX5 39 yX5_in, Cond.static yX5_in, Cond.code yX5_in cX5_in 3 (some .boolean), Cond.methodLink RX5 112 yX5_isNumber, Cond.static yX5_isNumber, Cond.code yX5_isNumber cX5_isNumber 1 (some .boolean), Cond.methodLink RX5 35 yX5_copies, Cond.static yX5_copies, Cond.code yX5_copies cX5_copies 5 none, Cond.methodLink RX5 119 yX5_goesAll, Cond.instanceMethod yX5_goesAll, Cond.selects RX5 yX5_goesAll yX5_goesAll, Cond.code yX5_goesAll cX5_goesAll 7 (some .int), Cond.methodLink RX5 51 yX5_isIn, Cond.instanceMethod yX5_isIn, Cond.selects RX5 yX5_isIn yX5_isIn, Cond.code yX5_isIn cX5_isIn 3 (some .boolean)]
def wsX5_ranges_r2 : List Cond := [Cond.methodLink RX5 43 yX5_of, Cond.instanceMethod yX5_of, Cond.selects RX5 yX5_of yX5_of, Cond.code yX5_of cX5_of 3 (some .int), Cond.methodLink RX5 115 yX5_goes, Cond.instanceMethod yX5_goes, Cond.selects RX5 yX5_goes yX5_goes, Cond.code yX5_goes cX5_goes 5 (some .boolean), Cond.methodLink RX5 80 yX5_puts, Cond.instanceMethod yX5_puts, Cond.selects RX5 yX5_puts yX5_puts, Cond.code yX5_puts cX5_puts 6 none, Cond.methodLink RX5 47 yX5_lays, Cond.instanceMethod yX5_lays, Cond.selects RX5 yX5_lays yX5_lays, Cond.code yX5_lays cX5_lays 4 none, Cond.methodLink RX5 62 yX5_kindOf, Cond.instanceMethod yX5_kindOf, Cond.selects RX5 yX5_kindOf yX5_kindOf, Cond.code yX5_kindOf cX5_kindOf 3 (some .int), Cond.methodLink RX5 65 yX5_manyIn, Cond.instanceMethod yX5_manyIn, Cond.selects RX5 yX5_manyIn yX5_manyIn, Cond.code yX5_manyIn cX5_manyIn 5 (some .int)]
def wsX5_ranges_r3 : List Cond := [Cond.methodLink RX5 74 yX5_bestOf, Cond.instanceMethod yX5_bestOf, Cond.selects RX5 yX5_bestOf yX5_bestOf, Cond.code yX5_bestOf cX5_bestOf 3 (some .int), Cond.methodLink RX5 68 yX5_runsIn, Cond.instanceMethod yX5_runsIn, Cond.selects RX5 yX5_runsIn yX5_runsIn, Cond.code yX5_runsIn cX5_runsIn 5 (some .int), Cond.methodLink RX5 71 yX5_best, Cond.static yX5_best, Cond.code yX5_best cX5_best 3 (some .int), Cond.methodLink RX5 55 yX5_holds, Cond.static yX5_holds, Cond.code yX5_holds cX5_holds 3 (some .boolean), Cond.methodLink RX5 58 yX5_units, Cond.static yX5_units, Cond.code yX5_units cX5_units 3 (some .int), Cond.methodLink RX5 77 yX5_tollOf, Cond.instanceMethod yX5_tollOf, Cond.selects RX5 yX5_tollOf yX5_tollOf, Cond.code yX5_tollOf cX5_tollOf 4 (some .int), Cond.methodLink RX5 84 yX5_becomes, Cond.instanceMethod yX5_becomes, Cond.selects RX5 yX5_becomes yX5_becomes]
def wsX5_ranges_r4 : List Cond := [Cond.code yX5_becomes cX5_becomes 4 none, Cond.methodLink RX5 123 yX5_ends, Cond.instanceMethod yX5_ends, Cond.selects RX5 yX5_ends yX5_ends, Cond.code yX5_ends cX5_ends 2 (some .int), Cond.methodLink RX5 88 yX5_records, Cond.instanceMethod yX5_records, Cond.selects RX5 yX5_records yX5_records, Cond.code yX5_records cX5_records 3 none, Cond.fieldLink RX5 31 "BoatSetsModel" "pasts" "I", Cond.fieldLink RX5 13 "BoatSetsModel" "past" "[I"]
def wsX5_ranges : List Cond := .code yX5_ranges cX5_ranges 5 (some .int) :: ((wsX5_ranges_r1 ++ (wsX5_ranges_r2 ++ (wsX5_ranges_r3 ++ wsX5_ranges_r4))) ++ wsX50)
def wsX5_addRange_r1 : List Cond := [Cond.methodLink RX5 126 yX5_ranges, Cond.instanceMethod yX5_ranges, Cond.selects RX5 yX5_ranges yX5_ranges, Cond.initialized RX5, Cond.code yX5_ranges cX5_ranges 5 (some .int), Cond.fieldLink RX5 7 "BoatSetsModel" "now" "[I", Cond.fieldLink RX5 19 "BoatSetsModel" "trial" "[I", Cond.methodLink RX5 92 yX5_isSet, Cond.instanceMethod yX5_isSet, Cond.selects RX5 yX5_isSet yX5_isSet, Cond.code yX5_isSet cX5_isSet 2 (some .boolean), Cond.methodLink RX5 39 yX5_in, Cond.static yX5_in, Cond.code yX5_in cX5_in 3 (some .boolean), Cond.methodLink RX5 112 yX5_isNumber, Cond.static yX5_isNumber, Cond.code yX5_isNumber cX5_isNumber 1 (some .boolean), Cond.methodLink RX5 35 yX5_copies, Cond.static yX5_copies, Cond.code yX5_copies cX5_copies 5 none, Cond.methodLink RX5 119 yX5_goesAll, Cond.instanceMethod yX5_goesAll, Cond.selects RX5 yX5_goesAll yX5_goesAll, Cond.code yX5_goesAll cX5_goesAll 7 (some .int)]
def wsX5_addRange_r2 : List Cond := [Cond.methodLink RX5 51 yX5_isIn, Cond.instanceMethod yX5_isIn, Cond.selects RX5 yX5_isIn yX5_isIn, Cond.code yX5_isIn cX5_isIn 3 (some .boolean), Cond.methodLink RX5 43 yX5_of, Cond.instanceMethod yX5_of, Cond.selects RX5 yX5_of yX5_of, Cond.code yX5_of cX5_of 3 (some .int), Cond.methodLink RX5 115 yX5_goes, Cond.instanceMethod yX5_goes, Cond.selects RX5 yX5_goes yX5_goes, Cond.code yX5_goes cX5_goes 5 (some .boolean), Cond.methodLink RX5 80 yX5_puts, Cond.instanceMethod yX5_puts, Cond.selects RX5 yX5_puts yX5_puts, Cond.code yX5_puts cX5_puts 6 none, Cond.methodLink RX5 47 yX5_lays, Cond.instanceMethod yX5_lays, Cond.selects RX5 yX5_lays yX5_lays, Cond.code yX5_lays cX5_lays 4 none, Cond.methodLink RX5 62 yX5_kindOf, Cond.instanceMethod yX5_kindOf, Cond.selects RX5 yX5_kindOf yX5_kindOf, Cond.code yX5_kindOf cX5_kindOf 3 (some .int)]
def wsX5_addRange_r3 : List Cond := [Cond.methodLink RX5 65 yX5_manyIn, Cond.instanceMethod yX5_manyIn, Cond.selects RX5 yX5_manyIn yX5_manyIn, Cond.code yX5_manyIn cX5_manyIn 5 (some .int), Cond.methodLink RX5 74 yX5_bestOf, Cond.instanceMethod yX5_bestOf, Cond.selects RX5 yX5_bestOf yX5_bestOf, Cond.code yX5_bestOf cX5_bestOf 3 (some .int), Cond.methodLink RX5 68 yX5_runsIn, Cond.instanceMethod yX5_runsIn, Cond.selects RX5 yX5_runsIn yX5_runsIn, Cond.code yX5_runsIn cX5_runsIn 5 (some .int), Cond.methodLink RX5 71 yX5_best, Cond.static yX5_best, Cond.code yX5_best cX5_best 3 (some .int), Cond.methodLink RX5 55 yX5_holds, Cond.static yX5_holds, Cond.code yX5_holds cX5_holds 3 (some .boolean), Cond.methodLink RX5 58 yX5_units, Cond.static yX5_units, Cond.code yX5_units cX5_units 3 (some .int), Cond.methodLink RX5 77 yX5_tollOf, Cond.instanceMethod yX5_tollOf, Cond.selects RX5 yX5_tollOf yX5_tollOf]
def wsX5_addRange_r4 : List Cond := [Cond.code yX5_tollOf cX5_tollOf 4 (some .int), Cond.methodLink RX5 84 yX5_becomes, Cond.instanceMethod yX5_becomes, Cond.selects RX5 yX5_becomes yX5_becomes, Cond.code yX5_becomes cX5_becomes 4 none, Cond.methodLink RX5 123 yX5_ends, Cond.instanceMethod yX5_ends, Cond.selects RX5 yX5_ends yX5_ends, Cond.code yX5_ends cX5_ends 2 (some .int), Cond.methodLink RX5 88 yX5_records, Cond.instanceMethod yX5_records, Cond.selects RX5 yX5_records yX5_records, Cond.code yX5_records cX5_records 3 none, Cond.fieldLink RX5 31 "BoatSetsModel" "pasts" "I", Cond.fieldLink RX5 13 "BoatSetsModel" "past" "[I"]
def wsX5_addRange : List Cond := .code yX5_addRange cX5_addRange 4 (some .int) :: ((wsX5_addRange_r1 ++ (wsX5_addRange_r2 ++ (wsX5_addRange_r3 ++ wsX5_addRange_r4))) ++ wsX50)
def wsX5_removeRange_r1 : List Cond := [Cond.methodLink RX5 126 yX5_ranges, Cond.instanceMethod yX5_ranges, Cond.selects RX5 yX5_ranges yX5_ranges, Cond.initialized RX5, Cond.code yX5_ranges cX5_ranges 5 (some .int), Cond.fieldLink RX5 7 "BoatSetsModel" "now" "[I", Cond.fieldLink RX5 19 "BoatSetsModel" "trial" "[I", Cond.methodLink RX5 92 yX5_isSet, Cond.instanceMethod yX5_isSet, Cond.selects RX5 yX5_isSet yX5_isSet, Cond.code yX5_isSet cX5_isSet 2 (some .boolean), Cond.methodLink RX5 39 yX5_in, Cond.static yX5_in, Cond.code yX5_in cX5_in 3 (some .boolean), Cond.methodLink RX5 112 yX5_isNumber, Cond.static yX5_isNumber, Cond.code yX5_isNumber cX5_isNumber 1 (some .boolean), Cond.methodLink RX5 35 yX5_copies, Cond.static yX5_copies, Cond.code yX5_copies cX5_copies 5 none, Cond.methodLink RX5 119 yX5_goesAll, Cond.instanceMethod yX5_goesAll, Cond.selects RX5 yX5_goesAll yX5_goesAll, Cond.code yX5_goesAll cX5_goesAll 7 (some .int)]
def wsX5_removeRange_r2 : List Cond := [Cond.methodLink RX5 51 yX5_isIn, Cond.instanceMethod yX5_isIn, Cond.selects RX5 yX5_isIn yX5_isIn, Cond.code yX5_isIn cX5_isIn 3 (some .boolean), Cond.methodLink RX5 43 yX5_of, Cond.instanceMethod yX5_of, Cond.selects RX5 yX5_of yX5_of, Cond.code yX5_of cX5_of 3 (some .int), Cond.methodLink RX5 115 yX5_goes, Cond.instanceMethod yX5_goes, Cond.selects RX5 yX5_goes yX5_goes, Cond.code yX5_goes cX5_goes 5 (some .boolean), Cond.methodLink RX5 80 yX5_puts, Cond.instanceMethod yX5_puts, Cond.selects RX5 yX5_puts yX5_puts, Cond.code yX5_puts cX5_puts 6 none, Cond.methodLink RX5 47 yX5_lays, Cond.instanceMethod yX5_lays, Cond.selects RX5 yX5_lays yX5_lays, Cond.code yX5_lays cX5_lays 4 none, Cond.methodLink RX5 62 yX5_kindOf, Cond.instanceMethod yX5_kindOf, Cond.selects RX5 yX5_kindOf yX5_kindOf, Cond.code yX5_kindOf cX5_kindOf 3 (some .int)]
def wsX5_removeRange_r3 : List Cond := [Cond.methodLink RX5 65 yX5_manyIn, Cond.instanceMethod yX5_manyIn, Cond.selects RX5 yX5_manyIn yX5_manyIn, Cond.code yX5_manyIn cX5_manyIn 5 (some .int), Cond.methodLink RX5 74 yX5_bestOf, Cond.instanceMethod yX5_bestOf, Cond.selects RX5 yX5_bestOf yX5_bestOf, Cond.code yX5_bestOf cX5_bestOf 3 (some .int), Cond.methodLink RX5 68 yX5_runsIn, Cond.instanceMethod yX5_runsIn, Cond.selects RX5 yX5_runsIn yX5_runsIn, Cond.code yX5_runsIn cX5_runsIn 5 (some .int), Cond.methodLink RX5 71 yX5_best, Cond.static yX5_best, Cond.code yX5_best cX5_best 3 (some .int), Cond.methodLink RX5 55 yX5_holds, Cond.static yX5_holds, Cond.code yX5_holds cX5_holds 3 (some .boolean), Cond.methodLink RX5 58 yX5_units, Cond.static yX5_units, Cond.code yX5_units cX5_units 3 (some .int), Cond.methodLink RX5 77 yX5_tollOf, Cond.instanceMethod yX5_tollOf, Cond.selects RX5 yX5_tollOf yX5_tollOf]
def wsX5_removeRange_r4 : List Cond := [Cond.code yX5_tollOf cX5_tollOf 4 (some .int), Cond.methodLink RX5 84 yX5_becomes, Cond.instanceMethod yX5_becomes, Cond.selects RX5 yX5_becomes yX5_becomes, Cond.code yX5_becomes cX5_becomes 4 none, Cond.methodLink RX5 123 yX5_ends, Cond.instanceMethod yX5_ends, Cond.selects RX5 yX5_ends yX5_ends, Cond.code yX5_ends cX5_ends 2 (some .int), Cond.methodLink RX5 88 yX5_records, Cond.instanceMethod yX5_records, Cond.selects RX5 yX5_records yX5_records, Cond.code yX5_records cX5_records 3 none, Cond.fieldLink RX5 31 "BoatSetsModel" "pasts" "I", Cond.fieldLink RX5 13 "BoatSetsModel" "past" "[I"]
def wsX5_removeRange : List Cond := .code yX5_removeRange cX5_removeRange 4 (some .int) :: ((wsX5_removeRange_r1 ++ (wsX5_removeRange_r2 ++ (wsX5_removeRange_r3 ++ wsX5_removeRange_r4))) ++ wsX50)
def wsX5_gives : List Cond := .code yX5_gives cX5_gives 3 (some .boolean) :: ([])
def wsX5_laysGiven : List Cond := .code yX5_laysGiven cX5_laysGiven 6 (some .int) :: ([.fieldLink RX5 25 "BoatSetsModel" "given" "[I", .methodLink RX5 51 yX5_isIn, .instanceMethod yX5_isIn, .selects RX5 yX5_isIn yX5_isIn, .initialized RX5, .code yX5_isIn cX5_isIn 3 (some .boolean), .methodLink RX5 43 yX5_of, .instanceMethod yX5_of, .selects RX5 yX5_of yX5_of, .code yX5_of cX5_of 3 (some .int), .fieldLink RX5 7 "BoatSetsModel" "now" "[I", .methodLink RX5 129 yX5_gives, .static yX5_gives, .code yX5_gives cX5_gives 3 (some .boolean)] ++ wsX50)
def wsX5_combine_r1 : List Cond := [Cond.fieldLink RX5 7 "BoatSetsModel" "now" "[I", Cond.fieldLink RX5 25 "BoatSetsModel" "given" "[I", Cond.methodLink RX5 92 yX5_isSet, Cond.instanceMethod yX5_isSet, Cond.selects RX5 yX5_isSet yX5_isSet, Cond.initialized RX5, Cond.code yX5_isSet cX5_isSet 2 (some .boolean), Cond.methodLink RX5 39 yX5_in, Cond.static yX5_in, Cond.code yX5_in cX5_in 3 (some .boolean), Cond.methodLink RX5 43 yX5_of, Cond.instanceMethod yX5_of, Cond.selects RX5 yX5_of yX5_of, Cond.code yX5_of cX5_of 3 (some .int), Cond.methodLink RX5 88 yX5_records, Cond.instanceMethod yX5_records, Cond.selects RX5 yX5_records yX5_records, Cond.code yX5_records cX5_records 3 none, Cond.fieldLink RX5 31 "BoatSetsModel" "pasts" "I", Cond.fieldLink RX5 13 "BoatSetsModel" "past" "[I", Cond.methodLink RX5 35 yX5_copies, Cond.static yX5_copies, Cond.code yX5_copies cX5_copies 5 none, Cond.methodLink RX5 133 yX5_laysGiven]
def wsX5_combine_r2 : List Cond := [Cond.instanceMethod yX5_laysGiven, Cond.selects RX5 yX5_laysGiven yX5_laysGiven, Cond.code yX5_laysGiven cX5_laysGiven 6 (some .int), Cond.methodLink RX5 51 yX5_isIn, Cond.instanceMethod yX5_isIn, Cond.selects RX5 yX5_isIn yX5_isIn, Cond.code yX5_isIn cX5_isIn 3 (some .boolean), Cond.methodLink RX5 129 yX5_gives, Cond.static yX5_gives, Cond.code yX5_gives cX5_gives 3 (some .boolean), Cond.methodLink RX5 47 yX5_lays, Cond.instanceMethod yX5_lays, Cond.selects RX5 yX5_lays yX5_lays, Cond.code yX5_lays cX5_lays 4 none, Cond.methodLink RX5 65 yX5_manyIn, Cond.instanceMethod yX5_manyIn, Cond.selects RX5 yX5_manyIn yX5_manyIn, Cond.code yX5_manyIn cX5_manyIn 5 (some .int), Cond.methodLink RX5 74 yX5_bestOf, Cond.instanceMethod yX5_bestOf, Cond.selects RX5 yX5_bestOf yX5_bestOf, Cond.code yX5_bestOf cX5_bestOf 3 (some .int), Cond.methodLink RX5 68 yX5_runsIn, Cond.instanceMethod yX5_runsIn]
def wsX5_combine_r3 : List Cond := [Cond.selects RX5 yX5_runsIn yX5_runsIn, Cond.code yX5_runsIn cX5_runsIn 5 (some .int), Cond.methodLink RX5 71 yX5_best, Cond.static yX5_best, Cond.code yX5_best cX5_best 3 (some .int), Cond.methodLink RX5 55 yX5_holds, Cond.static yX5_holds, Cond.code yX5_holds cX5_holds 3 (some .boolean), Cond.methodLink RX5 58 yX5_units, Cond.static yX5_units, Cond.code yX5_units cX5_units 3 (some .int)]
def wsX5_combine : List Cond := .code yX5_combine cX5_combine 7 (some .int) :: ((wsX5_combine_r1 ++ (wsX5_combine_r2 ++ wsX5_combine_r3)) ++ wsX50)
def wsX5_type : List Cond := .code yX5_type cX5_type 2 (some .int) :: ([.fieldLink RX5 136 "BoatSetsModel" "typed" "I", .fieldLink RX5 22 "BoatSetsModel" "text" "[I"] ++ wsX50)
def wsX5_clearText : List Cond := .code yX5_clearText cX5_clearText 2 (some .int) :: ([.fieldLink RX5 136 "BoatSetsModel" "typed" "I"] ++ wsX50)
def wsX5_signAt : List Cond := .code yX5_signAt cX5_signAt 2 (some .int) :: ([.fieldLink RX5 136 "BoatSetsModel" "typed" "I", .fieldLink RX5 22 "BoatSetsModel" "text" "[I"] ++ wsX50)
def wsX5_readsNumber : List Cond := .code yX5_readsNumber cX5_readsNumber 3 (some .int) :: ([.fieldLink RX5 139 "BoatSetsModel" "at" "I", .methodLink RX5 142 yX5_signAt, .instanceMethod yX5_signAt, .selects RX5 yX5_signAt yX5_signAt, .initialized RX5, .code yX5_signAt cX5_signAt 2 (some .int), .fieldLink RX5 136 "BoatSetsModel" "typed" "I", .fieldLink RX5 22 "BoatSetsModel" "text" "[I", .methodLink RX5 39 yX5_in, .static yX5_in, .code yX5_in cX5_in 3 (some .boolean)] ++ wsX50)
def wsX5_faultOf : List Cond := .code yX5_faultOf cX5_faultOf 4 (some .int) :: ([.fieldLink RX5 139 "BoatSetsModel" "at" "I", .fieldLink RX5 145 "BoatSetsModel" "readMany" "I", .fieldLink RX5 28 "BoatSetsModel" "numbers" "[I", .fieldLink RX5 136 "BoatSetsModel" "typed" "I", .methodLink RX5 148 yX5_readsNumber, .instanceMethod yX5_readsNumber, .selects RX5 yX5_readsNumber yX5_readsNumber, .initialized RX5, .code yX5_readsNumber cX5_readsNumber 3 (some .int), .methodLink RX5 142 yX5_signAt, .instanceMethod yX5_signAt, .selects RX5 yX5_signAt yX5_signAt, .code yX5_signAt cX5_signAt 2 (some .int), .fieldLink RX5 22 "BoatSetsModel" "text" "[I", .methodLink RX5 39 yX5_in, .static yX5_in, .code yX5_in cX5_in 3 (some .boolean)] ++ wsX50)
def wsX5_readRanges_r1 : List Cond := [Cond.fieldLink RX5 145 "BoatSetsModel" "readMany" "I", Cond.fieldLink RX5 28 "BoatSetsModel" "numbers" "[I", Cond.fieldLink RX5 7 "BoatSetsModel" "now" "[I", Cond.fieldLink RX5 19 "BoatSetsModel" "trial" "[I", Cond.methodLink RX5 92 yX5_isSet, Cond.instanceMethod yX5_isSet, Cond.selects RX5 yX5_isSet yX5_isSet, Cond.initialized RX5, Cond.code yX5_isSet cX5_isSet 2 (some .boolean), Cond.methodLink RX5 39 yX5_in, Cond.static yX5_in, Cond.code yX5_in cX5_in 3 (some .boolean), Cond.methodLink RX5 152 yX5_faultOf, Cond.instanceMethod yX5_faultOf, Cond.selects RX5 yX5_faultOf yX5_faultOf, Cond.code yX5_faultOf cX5_faultOf 4 (some .int), Cond.fieldLink RX5 139 "BoatSetsModel" "at" "I", Cond.fieldLink RX5 136 "BoatSetsModel" "typed" "I", Cond.methodLink RX5 148 yX5_readsNumber, Cond.instanceMethod yX5_readsNumber, Cond.selects RX5 yX5_readsNumber yX5_readsNumber, Cond.code yX5_readsNumber cX5_readsNumber 3 (some .int), Cond.methodLink RX5 142 yX5_signAt, Cond.instanceMethod yX5_signAt]
def wsX5_readRanges_r2 : List Cond := [Cond.selects RX5 yX5_signAt yX5_signAt, Cond.code yX5_signAt cX5_signAt 2 (some .int), Cond.fieldLink RX5 22 "BoatSetsModel" "text" "[I", Cond.methodLink RX5 112 yX5_isNumber, Cond.static yX5_isNumber, Cond.code yX5_isNumber cX5_isNumber 1 (some .boolean), Cond.methodLink RX5 35 yX5_copies, Cond.static yX5_copies, Cond.code yX5_copies cX5_copies 5 none, Cond.methodLink RX5 119 yX5_goesAll, Cond.instanceMethod yX5_goesAll, Cond.selects RX5 yX5_goesAll yX5_goesAll, Cond.code yX5_goesAll cX5_goesAll 7 (some .int), Cond.methodLink RX5 51 yX5_isIn, Cond.instanceMethod yX5_isIn, Cond.selects RX5 yX5_isIn yX5_isIn, Cond.code yX5_isIn cX5_isIn 3 (some .boolean), Cond.methodLink RX5 43 yX5_of, Cond.instanceMethod yX5_of, Cond.selects RX5 yX5_of yX5_of, Cond.code yX5_of cX5_of 3 (some .int), Cond.methodLink RX5 115 yX5_goes, Cond.instanceMethod yX5_goes, Cond.selects RX5 yX5_goes yX5_goes]
def wsX5_readRanges_r3 : List Cond := [Cond.code yX5_goes cX5_goes 5 (some .boolean), Cond.methodLink RX5 80 yX5_puts, Cond.instanceMethod yX5_puts, Cond.selects RX5 yX5_puts yX5_puts, Cond.code yX5_puts cX5_puts 6 none, Cond.methodLink RX5 47 yX5_lays, Cond.instanceMethod yX5_lays, Cond.selects RX5 yX5_lays yX5_lays, Cond.code yX5_lays cX5_lays 4 none, Cond.methodLink RX5 62 yX5_kindOf, Cond.instanceMethod yX5_kindOf, Cond.selects RX5 yX5_kindOf yX5_kindOf, Cond.code yX5_kindOf cX5_kindOf 3 (some .int), Cond.methodLink RX5 65 yX5_manyIn, Cond.instanceMethod yX5_manyIn, Cond.selects RX5 yX5_manyIn yX5_manyIn, Cond.code yX5_manyIn cX5_manyIn 5 (some .int), Cond.methodLink RX5 74 yX5_bestOf, Cond.instanceMethod yX5_bestOf, Cond.selects RX5 yX5_bestOf yX5_bestOf, Cond.code yX5_bestOf cX5_bestOf 3 (some .int), Cond.methodLink RX5 68 yX5_runsIn, Cond.instanceMethod yX5_runsIn, Cond.selects RX5 yX5_runsIn yX5_runsIn]
def wsX5_readRanges_r4 : List Cond := [Cond.code yX5_runsIn cX5_runsIn 5 (some .int), Cond.methodLink RX5 71 yX5_best, Cond.static yX5_best, Cond.code yX5_best cX5_best 3 (some .int), Cond.methodLink RX5 55 yX5_holds, Cond.static yX5_holds, Cond.code yX5_holds cX5_holds 3 (some .boolean), Cond.methodLink RX5 58 yX5_units, Cond.static yX5_units, Cond.code yX5_units cX5_units 3 (some .int), Cond.methodLink RX5 77 yX5_tollOf, Cond.instanceMethod yX5_tollOf, Cond.selects RX5 yX5_tollOf yX5_tollOf, Cond.code yX5_tollOf cX5_tollOf 4 (some .int), Cond.methodLink RX5 84 yX5_becomes, Cond.instanceMethod yX5_becomes, Cond.selects RX5 yX5_becomes yX5_becomes, Cond.code yX5_becomes cX5_becomes 4 none, Cond.methodLink RX5 123 yX5_ends, Cond.instanceMethod yX5_ends, Cond.selects RX5 yX5_ends yX5_ends, Cond.code yX5_ends cX5_ends 2 (some .int), Cond.methodLink RX5 88 yX5_records, Cond.instanceMethod yX5_records]
def wsX5_readRanges_r5 : List Cond := [Cond.selects RX5 yX5_records yX5_records, Cond.code yX5_records cX5_records 3 none, Cond.fieldLink RX5 31 "BoatSetsModel" "pasts" "I", Cond.fieldLink RX5 13 "BoatSetsModel" "past" "[I"]
def wsX5_readRanges : List Cond := .code yX5_readRanges cX5_readRanges 6 (some .int) :: ((wsX5_readRanges_r1 ++ (wsX5_readRanges_r2 ++ (wsX5_readRanges_r3 ++ (wsX5_readRanges_r4 ++ wsX5_readRanges_r5)))) ++ wsX50)
def wsX5_undo : List Cond := .code yX5_undo cX5_undo 1 (some .int) :: ([.fieldLink RX5 31 "BoatSetsModel" "pasts" "I", .fieldLink RX5 13 "BoatSetsModel" "past" "[I", .fieldLink RX5 7 "BoatSetsModel" "now" "[I", .methodLink RX5 35 yX5_copies, .static yX5_copies, .initialized RX5, .code yX5_copies cX5_copies 5 none] ++ wsX50)
def wsX5_keep : List Cond := .code yX5_keep cX5_keep 1 (some .int) :: ([.fieldLink RX5 7 "BoatSetsModel" "now" "[I", .fieldLink RX5 16 "BoatSetsModel" "kept" "[I", .fieldLink RX5 155 "BoatSetsModel" "isKept" "Z", .methodLink RX5 35 yX5_copies, .static yX5_copies, .initialized RX5, .code yX5_copies cX5_copies 5 none] ++ wsX50)
def wsX5_restore : List Cond := .code yX5_restore cX5_restore 1 (some .int) :: ([.fieldLink RX5 155 "BoatSetsModel" "isKept" "Z", .fieldLink RX5 7 "BoatSetsModel" "now" "[I", .fieldLink RX5 16 "BoatSetsModel" "kept" "[I", .methodLink RX5 88 yX5_records, .instanceMethod yX5_records, .selects RX5 yX5_records yX5_records, .initialized RX5, .code yX5_records cX5_records 3 none, .fieldLink RX5 31 "BoatSetsModel" "pasts" "I", .fieldLink RX5 13 "BoatSetsModel" "past" "[I", .methodLink RX5 35 yX5_copies, .static yX5_copies, .code yX5_copies cX5_copies 5 none] ++ wsX50)
def wsX5_has : List Cond := .code yX5_has cX5_has 3 (some .int) :: ([.methodLink RX5 92 yX5_isSet, .instanceMethod yX5_isSet, .selects RX5 yX5_isSet yX5_isSet, .initialized RX5, .code yX5_isSet cX5_isSet 2 (some .boolean), .fieldLink RX5 7 "BoatSetsModel" "now" "[I", .methodLink RX5 39 yX5_in, .static yX5_in, .code yX5_in cX5_in 3 (some .boolean), .methodLink RX5 112 yX5_isNumber, .static yX5_isNumber, .code yX5_isNumber cX5_isNumber 1 (some .boolean), .methodLink RX5 51 yX5_isIn, .instanceMethod yX5_isIn, .selects RX5 yX5_isIn yX5_isIn, .code yX5_isIn cX5_isIn 3 (some .boolean), .methodLink RX5 43 yX5_of, .instanceMethod yX5_of, .selects RX5 yX5_of yX5_of, .code yX5_of cX5_of 3 (some .int)] ++ wsX50)
def wsX5_rankOf : List Cond := .code yX5_rankOf cX5_rankOf 5 (some .int) :: ([.methodLink RX5 51 yX5_isIn, .instanceMethod yX5_isIn, .selects RX5 yX5_isIn yX5_isIn, .initialized RX5, .code yX5_isIn cX5_isIn 3 (some .boolean), .methodLink RX5 43 yX5_of, .instanceMethod yX5_of, .selects RX5 yX5_of yX5_of, .code yX5_of cX5_of 3 (some .int), .fieldLink RX5 7 "BoatSetsModel" "now" "[I"] ++ wsX50)
def wsX5_firstFrom : List Cond := .code yX5_firstFrom cX5_firstFrom 5 (some .int) :: ([.methodLink RX5 112 yX5_isNumber, .static yX5_isNumber, .initialized RX5, .code yX5_isNumber cX5_isNumber 1 (some .boolean), .methodLink RX5 39 yX5_in, .static yX5_in, .code yX5_in cX5_in 3 (some .boolean), .methodLink RX5 51 yX5_isIn, .instanceMethod yX5_isIn, .selects RX5 yX5_isIn yX5_isIn, .code yX5_isIn cX5_isIn 3 (some .boolean), .methodLink RX5 43 yX5_of, .instanceMethod yX5_of, .selects RX5 yX5_of yX5_of, .code yX5_of cX5_of 3 (some .int), .fieldLink RX5 7 "BoatSetsModel" "now" "[I"] ++ wsX50)
def wsX5_sumOf_r1 : List Cond := [Cond.methodLink RX5 62 yX5_kindOf, Cond.instanceMethod yX5_kindOf, Cond.selects RX5 yX5_kindOf yX5_kindOf, Cond.initialized RX5, Cond.code yX5_kindOf cX5_kindOf 3 (some .int), Cond.methodLink RX5 43 yX5_of, Cond.instanceMethod yX5_of, Cond.selects RX5 yX5_of yX5_of, Cond.code yX5_of cX5_of 3 (some .int), Cond.fieldLink RX5 7 "BoatSetsModel" "now" "[I", Cond.methodLink RX5 65 yX5_manyIn, Cond.instanceMethod yX5_manyIn, Cond.selects RX5 yX5_manyIn yX5_manyIn, Cond.code yX5_manyIn cX5_manyIn 5 (some .int), Cond.methodLink RX5 51 yX5_isIn, Cond.instanceMethod yX5_isIn, Cond.selects RX5 yX5_isIn yX5_isIn, Cond.code yX5_isIn cX5_isIn 3 (some .boolean), Cond.methodLink RX5 68 yX5_runsIn, Cond.instanceMethod yX5_runsIn, Cond.selects RX5 yX5_runsIn yX5_runsIn, Cond.code yX5_runsIn cX5_runsIn 5 (some .int), Cond.methodLink RX5 58 yX5_units, Cond.static yX5_units]
def wsX5_sumOf_r2 : List Cond := [Cond.code yX5_units cX5_units 3 (some .int), Cond.methodLink RX5 71 yX5_best, Cond.static yX5_best, Cond.code yX5_best cX5_best 3 (some .int), Cond.methodLink RX5 55 yX5_holds, Cond.static yX5_holds, Cond.code yX5_holds cX5_holds 3 (some .boolean)]
def wsX5_sumOf : List Cond := .code yX5_sumOf cX5_sumOf 7 (some .int) :: ((wsX5_sumOf_r1 ++ wsX5_sumOf_r2) ++ wsX50)
def wsX5_set_r1 : List Cond := [Cond.methodLink RX5 92 yX5_isSet, Cond.instanceMethod yX5_isSet, Cond.selects RX5 yX5_isSet yX5_isSet, Cond.initialized RX5, Cond.code yX5_isSet cX5_isSet 2 (some .boolean), Cond.fieldLink RX5 7 "BoatSetsModel" "now" "[I", Cond.methodLink RX5 39 yX5_in, Cond.static yX5_in, Cond.code yX5_in cX5_in 3 (some .boolean), Cond.methodLink RX5 159 yX5_rankOf, Cond.instanceMethod yX5_rankOf, Cond.selects RX5 yX5_rankOf yX5_rankOf, Cond.code yX5_rankOf cX5_rankOf 5 (some .int), Cond.methodLink RX5 51 yX5_isIn, Cond.instanceMethod yX5_isIn, Cond.selects RX5 yX5_isIn yX5_isIn, Cond.code yX5_isIn cX5_isIn 3 (some .boolean), Cond.methodLink RX5 43 yX5_of, Cond.instanceMethod yX5_of, Cond.selects RX5 yX5_of yX5_of, Cond.code yX5_of cX5_of 3 (some .int), Cond.methodLink RX5 96 yX5_boatsOf, Cond.instanceMethod yX5_boatsOf, Cond.selects RX5 yX5_boatsOf yX5_boatsOf]
def wsX5_set_r2 : List Cond := [Cond.code yX5_boatsOf cX5_boatsOf 4 (some .int), Cond.methodLink RX5 62 yX5_kindOf, Cond.instanceMethod yX5_kindOf, Cond.selects RX5 yX5_kindOf yX5_kindOf, Cond.code yX5_kindOf cX5_kindOf 3 (some .int), Cond.methodLink RX5 162 yX5_sumOf, Cond.instanceMethod yX5_sumOf, Cond.selects RX5 yX5_sumOf yX5_sumOf, Cond.code yX5_sumOf cX5_sumOf 7 (some .int), Cond.methodLink RX5 65 yX5_manyIn, Cond.instanceMethod yX5_manyIn, Cond.selects RX5 yX5_manyIn yX5_manyIn, Cond.code yX5_manyIn cX5_manyIn 5 (some .int), Cond.methodLink RX5 68 yX5_runsIn, Cond.instanceMethod yX5_runsIn, Cond.selects RX5 yX5_runsIn yX5_runsIn, Cond.code yX5_runsIn cX5_runsIn 5 (some .int), Cond.methodLink RX5 58 yX5_units, Cond.static yX5_units, Cond.code yX5_units cX5_units 3 (some .int), Cond.methodLink RX5 71 yX5_best, Cond.static yX5_best, Cond.code yX5_best cX5_best 3 (some .int), Cond.methodLink RX5 55 yX5_holds]
def wsX5_set_r3 : List Cond := [Cond.static yX5_holds, Cond.code yX5_holds cX5_holds 3 (some .boolean), Cond.methodLink RX5 165 yX5_firstFrom, Cond.instanceMethod yX5_firstFrom, Cond.selects RX5 yX5_firstFrom yX5_firstFrom, Cond.code yX5_firstFrom cX5_firstFrom 5 (some .int), Cond.methodLink RX5 112 yX5_isNumber, Cond.static yX5_isNumber, Cond.code yX5_isNumber cX5_isNumber 1 (some .boolean)]
def wsX5_set : List Cond := .code yX5_set cX5_set 3 (some .int) :: ((wsX5_set_r1 ++ (wsX5_set_r2 ++ wsX5_set_r3)) ++ wsX50)
def wsX5_boat_r1 : List Cond := [Cond.methodLink RX5 92 yX5_isSet, Cond.instanceMethod yX5_isSet, Cond.selects RX5 yX5_isSet yX5_isSet, Cond.initialized RX5, Cond.code yX5_isSet cX5_isSet 2 (some .boolean), Cond.fieldLink RX5 7 "BoatSetsModel" "now" "[I", Cond.methodLink RX5 39 yX5_in, Cond.static yX5_in, Cond.code yX5_in cX5_in 3 (some .boolean), Cond.methodLink RX5 62 yX5_kindOf, Cond.instanceMethod yX5_kindOf, Cond.selects RX5 yX5_kindOf yX5_kindOf, Cond.code yX5_kindOf cX5_kindOf 3 (some .int), Cond.methodLink RX5 43 yX5_of, Cond.instanceMethod yX5_of, Cond.selects RX5 yX5_of yX5_of, Cond.code yX5_of cX5_of 3 (some .int), Cond.methodLink RX5 65 yX5_manyIn, Cond.instanceMethod yX5_manyIn, Cond.selects RX5 yX5_manyIn yX5_manyIn, Cond.code yX5_manyIn cX5_manyIn 5 (some .int), Cond.methodLink RX5 51 yX5_isIn, Cond.instanceMethod yX5_isIn, Cond.selects RX5 yX5_isIn yX5_isIn]
def wsX5_boat_r2 : List Cond := [Cond.code yX5_isIn cX5_isIn 3 (some .boolean), Cond.methodLink RX5 68 yX5_runsIn, Cond.instanceMethod yX5_runsIn, Cond.selects RX5 yX5_runsIn yX5_runsIn, Cond.code yX5_runsIn cX5_runsIn 5 (some .int), Cond.methodLink RX5 103 yX5_unitsOf, Cond.instanceMethod yX5_unitsOf, Cond.selects RX5 yX5_unitsOf yX5_unitsOf, Cond.code yX5_unitsOf cX5_unitsOf 3 (some .int), Cond.methodLink RX5 58 yX5_units, Cond.static yX5_units, Cond.code yX5_units cX5_units 3 (some .int), Cond.methodLink RX5 74 yX5_bestOf, Cond.instanceMethod yX5_bestOf, Cond.selects RX5 yX5_bestOf yX5_bestOf, Cond.code yX5_bestOf cX5_bestOf 3 (some .int), Cond.methodLink RX5 71 yX5_best, Cond.static yX5_best, Cond.code yX5_best cX5_best 3 (some .int), Cond.methodLink RX5 55 yX5_holds, Cond.static yX5_holds, Cond.code yX5_holds cX5_holds 3 (some .boolean), Cond.methodLink RX5 77 yX5_tollOf, Cond.instanceMethod yX5_tollOf]
def wsX5_boat_r3 : List Cond := [Cond.selects RX5 yX5_tollOf yX5_tollOf, Cond.code yX5_tollOf cX5_tollOf 4 (some .int)]
def wsX5_boat : List Cond := .code yX5_boat cX5_boat 4 (some .int) :: ((wsX5_boat_r1 ++ (wsX5_boat_r2 ++ wsX5_boat_r3)) ++ wsX50)
def wsX5_rank : List Cond := .code yX5_rank cX5_rank 3 (some .int) :: ([.methodLink RX5 92 yX5_isSet, .instanceMethod yX5_isSet, .selects RX5 yX5_isSet yX5_isSet, .initialized RX5, .code yX5_isSet cX5_isSet 2 (some .boolean), .fieldLink RX5 7 "BoatSetsModel" "now" "[I", .methodLink RX5 39 yX5_in, .static yX5_in, .code yX5_in cX5_in 3 (some .boolean), .methodLink RX5 112 yX5_isNumber, .static yX5_isNumber, .code yX5_isNumber cX5_isNumber 1 (some .boolean), .methodLink RX5 159 yX5_rankOf, .instanceMethod yX5_rankOf, .selects RX5 yX5_rankOf yX5_rankOf, .code yX5_rankOf cX5_rankOf 5 (some .int), .methodLink RX5 51 yX5_isIn, .instanceMethod yX5_isIn, .selects RX5 yX5_isIn yX5_isIn, .code yX5_isIn cX5_isIn 3 (some .boolean), .methodLink RX5 43 yX5_of, .instanceMethod yX5_of, .selects RX5 yX5_of yX5_of, .code yX5_of cX5_of 3 (some .int)] ++ wsX50)
def wsX5_at : List Cond := .code yX5_at cX5_at 5 (some .int) :: ([.methodLink RX5 92 yX5_isSet, .instanceMethod yX5_isSet, .selects RX5 yX5_isSet yX5_isSet, .initialized RX5, .code yX5_isSet cX5_isSet 2 (some .boolean), .fieldLink RX5 7 "BoatSetsModel" "now" "[I", .methodLink RX5 39 yX5_in, .static yX5_in, .code yX5_in cX5_in 3 (some .boolean), .methodLink RX5 51 yX5_isIn, .instanceMethod yX5_isIn, .selects RX5 yX5_isIn yX5_isIn, .code yX5_isIn cX5_isIn 3 (some .boolean), .methodLink RX5 43 yX5_of, .instanceMethod yX5_of, .selects RX5 yX5_of yX5_of, .code yX5_of cX5_of 3 (some .int)] ++ wsX50)
def wsX5_next : List Cond := .code yX5_next cX5_next 3 (some .int) :: ([.methodLink RX5 92 yX5_isSet, .instanceMethod yX5_isSet, .selects RX5 yX5_isSet yX5_isSet, .initialized RX5, .code yX5_isSet cX5_isSet 2 (some .boolean), .fieldLink RX5 7 "BoatSetsModel" "now" "[I", .methodLink RX5 39 yX5_in, .static yX5_in, .code yX5_in cX5_in 3 (some .boolean), .methodLink RX5 112 yX5_isNumber, .static yX5_isNumber, .code yX5_isNumber cX5_isNumber 1 (some .boolean), .methodLink RX5 165 yX5_firstFrom, .instanceMethod yX5_firstFrom, .selects RX5 yX5_firstFrom yX5_firstFrom, .code yX5_firstFrom cX5_firstFrom 5 (some .int), .methodLink RX5 51 yX5_isIn, .instanceMethod yX5_isIn, .selects RX5 yX5_isIn yX5_isIn, .code yX5_isIn cX5_isIn 3 (some .boolean), .methodLink RX5 43 yX5_of, .instanceMethod yX5_of, .selects RX5 yX5_of yX5_of, .code yX5_of cX5_of 3 (some .int)] ++ wsX50)
def wsX5_nearest : List Cond := .code yX5_nearest cX5_nearest 5 (some .int) :: ([.methodLink RX5 92 yX5_isSet, .instanceMethod yX5_isSet, .selects RX5 yX5_isSet yX5_isSet, .initialized RX5, .code yX5_isSet cX5_isSet 2 (some .boolean), .fieldLink RX5 7 "BoatSetsModel" "now" "[I", .methodLink RX5 39 yX5_in, .static yX5_in, .code yX5_in cX5_in 3 (some .boolean), .methodLink RX5 112 yX5_isNumber, .static yX5_isNumber, .code yX5_isNumber cX5_isNumber 1 (some .boolean), .methodLink RX5 165 yX5_firstFrom, .instanceMethod yX5_firstFrom, .selects RX5 yX5_firstFrom yX5_firstFrom, .code yX5_firstFrom cX5_firstFrom 5 (some .int), .methodLink RX5 51 yX5_isIn, .instanceMethod yX5_isIn, .selects RX5 yX5_isIn yX5_isIn, .code yX5_isIn cX5_isIn 3 (some .boolean), .methodLink RX5 43 yX5_of, .instanceMethod yX5_of, .selects RX5 yX5_of yX5_of, .code yX5_of cX5_of 3 (some .int)] ++ wsX50)
def wsX5_gap : List Cond := .code yX5_gap cX5_gap 5 (some .int) :: ([.methodLink RX5 92 yX5_isSet, .instanceMethod yX5_isSet, .selects RX5 yX5_isSet yX5_isSet, .initialized RX5, .code yX5_isSet cX5_isSet 2 (some .boolean), .fieldLink RX5 7 "BoatSetsModel" "now" "[I", .methodLink RX5 39 yX5_in, .static yX5_in, .code yX5_in cX5_in 3 (some .boolean), .methodLink RX5 51 yX5_isIn, .instanceMethod yX5_isIn, .selects RX5 yX5_isIn yX5_isIn, .code yX5_isIn cX5_isIn 3 (some .boolean), .methodLink RX5 43 yX5_of, .instanceMethod yX5_of, .selects RX5 yX5_of yX5_of, .code yX5_of cX5_of 3 (some .int)] ++ wsX50)
def wsX5_sizeOf_r1 : List Cond := [Cond.methodLink RX5 92 yX5_isSet, Cond.instanceMethod yX5_isSet, Cond.selects RX5 yX5_isSet yX5_isSet, Cond.initialized RX5, Cond.code yX5_isSet cX5_isSet 2 (some .boolean), Cond.fieldLink RX5 7 "BoatSetsModel" "now" "[I", Cond.methodLink RX5 39 yX5_in, Cond.static yX5_in, Cond.code yX5_in cX5_in 3 (some .boolean), Cond.methodLink RX5 133 yX5_laysGiven, Cond.instanceMethod yX5_laysGiven, Cond.selects RX5 yX5_laysGiven yX5_laysGiven, Cond.code yX5_laysGiven cX5_laysGiven 6 (some .int), Cond.fieldLink RX5 25 "BoatSetsModel" "given" "[I", Cond.methodLink RX5 51 yX5_isIn, Cond.instanceMethod yX5_isIn, Cond.selects RX5 yX5_isIn yX5_isIn, Cond.code yX5_isIn cX5_isIn 3 (some .boolean), Cond.methodLink RX5 43 yX5_of, Cond.instanceMethod yX5_of, Cond.selects RX5 yX5_of yX5_of, Cond.code yX5_of cX5_of 3 (some .int), Cond.methodLink RX5 129 yX5_gives, Cond.static yX5_gives]
def wsX5_sizeOf_r2 : List Cond := [Cond.code yX5_gives cX5_gives 3 (some .boolean)]
def wsX5_sizeOf : List Cond := .code yX5_sizeOf cX5_sizeOf 4 (some .int) :: ((wsX5_sizeOf_r1 ++ wsX5_sizeOf_r2) ++ wsX50)
def wsX5_setsWith : List Cond := .code yX5_setsWith cX5_setsWith 4 (some .int) :: ([.fieldLink RX5 7 "BoatSetsModel" "now" "[I", .methodLink RX5 51 yX5_isIn, .instanceMethod yX5_isIn, .selects RX5 yX5_isIn yX5_isIn, .initialized RX5, .code yX5_isIn cX5_isIn 3 (some .boolean), .methodLink RX5 43 yX5_of, .instanceMethod yX5_of, .selects RX5 yX5_of yX5_of, .code yX5_of cX5_of 3 (some .int)] ++ wsX50)
def wsX5_ofAll : List Cond := .code yX5_ofAll cX5_ofAll 5 (some .int) :: ([.methodLink RX5 168 yX5_setsWith, .instanceMethod yX5_setsWith, .selects RX5 yX5_setsWith yX5_setsWith, .initialized RX5, .code yX5_setsWith cX5_setsWith 4 (some .int), .fieldLink RX5 7 "BoatSetsModel" "now" "[I", .methodLink RX5 51 yX5_isIn, .instanceMethod yX5_isIn, .selects RX5 yX5_isIn yX5_isIn, .code yX5_isIn cX5_isIn 3 (some .boolean), .methodLink RX5 43 yX5_of, .instanceMethod yX5_of, .selects RX5 yX5_of yX5_of, .code yX5_of cX5_of 3 (some .int)] ++ wsX50)
def wsX5_most : List Cond := .code yX5_most cX5_most 5 (some .int) :: ([.methodLink RX5 168 yX5_setsWith, .instanceMethod yX5_setsWith, .selects RX5 yX5_setsWith yX5_setsWith, .initialized RX5, .code yX5_setsWith cX5_setsWith 4 (some .int), .fieldLink RX5 7 "BoatSetsModel" "now" "[I", .methodLink RX5 51 yX5_isIn, .instanceMethod yX5_isIn, .selects RX5 yX5_isIn yX5_isIn, .code yX5_isIn cX5_isIn 3 (some .boolean), .methodLink RX5 43 yX5_of, .instanceMethod yX5_of, .selects RX5 yX5_of yX5_of, .code yX5_of cX5_of 3 (some .int)] ++ wsX50)
def wsX5_tollToDock_r1 : List Cond := [Cond.fieldLink RX5 7 "BoatSetsModel" "now" "[I", Cond.fieldLink RX5 19 "BoatSetsModel" "trial" "[I", Cond.methodLink RX5 92 yX5_isSet, Cond.instanceMethod yX5_isSet, Cond.selects RX5 yX5_isSet yX5_isSet, Cond.initialized RX5, Cond.code yX5_isSet cX5_isSet 2 (some .boolean), Cond.methodLink RX5 39 yX5_in, Cond.static yX5_in, Cond.code yX5_in cX5_in 3 (some .boolean), Cond.methodLink RX5 35 yX5_copies, Cond.static yX5_copies, Cond.code yX5_copies cX5_copies 5 none, Cond.methodLink RX5 109 yX5_docks, Cond.instanceMethod yX5_docks, Cond.selects RX5 yX5_docks yX5_docks, Cond.code yX5_docks cX5_docks 4 (some .int), Cond.fieldLink RX5 100 "BoatSetsModel" "looked" "I", Cond.methodLink RX5 43 yX5_of, Cond.instanceMethod yX5_of, Cond.selects RX5 yX5_of yX5_of, Cond.code yX5_of cX5_of 3 (some .int), Cond.methodLink RX5 47 yX5_lays, Cond.instanceMethod yX5_lays]
def wsX5_tollToDock_r2 : List Cond := [Cond.selects RX5 yX5_lays yX5_lays, Cond.code yX5_lays cX5_lays 4 none, Cond.methodLink RX5 106 yX5_nextToDock, Cond.instanceMethod yX5_nextToDock, Cond.selects RX5 yX5_nextToDock yX5_nextToDock, Cond.code yX5_nextToDock cX5_nextToDock 7 (some .int), Cond.methodLink RX5 62 yX5_kindOf, Cond.instanceMethod yX5_kindOf, Cond.selects RX5 yX5_kindOf yX5_kindOf, Cond.code yX5_kindOf cX5_kindOf 3 (some .int), Cond.methodLink RX5 77 yX5_tollOf, Cond.instanceMethod yX5_tollOf, Cond.selects RX5 yX5_tollOf yX5_tollOf, Cond.code yX5_tollOf cX5_tollOf 4 (some .int), Cond.methodLink RX5 74 yX5_bestOf, Cond.instanceMethod yX5_bestOf, Cond.selects RX5 yX5_bestOf yX5_bestOf, Cond.code yX5_bestOf cX5_bestOf 3 (some .int), Cond.methodLink RX5 65 yX5_manyIn, Cond.instanceMethod yX5_manyIn, Cond.selects RX5 yX5_manyIn yX5_manyIn, Cond.code yX5_manyIn cX5_manyIn 5 (some .int), Cond.methodLink RX5 51 yX5_isIn, Cond.instanceMethod yX5_isIn]
def wsX5_tollToDock_r3 : List Cond := [Cond.selects RX5 yX5_isIn yX5_isIn, Cond.code yX5_isIn cX5_isIn 3 (some .boolean), Cond.methodLink RX5 68 yX5_runsIn, Cond.instanceMethod yX5_runsIn, Cond.selects RX5 yX5_runsIn yX5_runsIn, Cond.code yX5_runsIn cX5_runsIn 5 (some .int), Cond.methodLink RX5 71 yX5_best, Cond.static yX5_best, Cond.code yX5_best cX5_best 3 (some .int), Cond.methodLink RX5 55 yX5_holds, Cond.static yX5_holds, Cond.code yX5_holds cX5_holds 3 (some .boolean), Cond.methodLink RX5 58 yX5_units, Cond.static yX5_units, Cond.code yX5_units cX5_units 3 (some .int), Cond.methodLink RX5 103 yX5_unitsOf, Cond.instanceMethod yX5_unitsOf, Cond.selects RX5 yX5_unitsOf yX5_unitsOf, Cond.code yX5_unitsOf cX5_unitsOf 3 (some .int), Cond.methodLink RX5 84 yX5_becomes, Cond.instanceMethod yX5_becomes, Cond.selects RX5 yX5_becomes yX5_becomes, Cond.code yX5_becomes cX5_becomes 4 none]
def wsX5_tollToDock : List Cond := .code yX5_tollToDock cX5_tollToDock 3 (some .int) :: ((wsX5_tollToDock_r1 ++ (wsX5_tollToDock_r2 ++ wsX5_tollToDock_r3)) ++ wsX50)
def wsX5_overAll_r1 : List Cond := [Cond.fieldLink RX5 7 "BoatSetsModel" "now" "[I", Cond.methodLink RX5 171 yX5_set, Cond.instanceMethod yX5_set, Cond.selects RX5 yX5_set yX5_set, Cond.initialized RX5, Cond.code yX5_set cX5_set 3 (some .int), Cond.methodLink RX5 92 yX5_isSet, Cond.instanceMethod yX5_isSet, Cond.selects RX5 yX5_isSet yX5_isSet, Cond.code yX5_isSet cX5_isSet 2 (some .boolean), Cond.methodLink RX5 39 yX5_in, Cond.static yX5_in, Cond.code yX5_in cX5_in 3 (some .boolean), Cond.methodLink RX5 159 yX5_rankOf, Cond.instanceMethod yX5_rankOf, Cond.selects RX5 yX5_rankOf yX5_rankOf, Cond.code yX5_rankOf cX5_rankOf 5 (some .int), Cond.methodLink RX5 51 yX5_isIn, Cond.instanceMethod yX5_isIn, Cond.selects RX5 yX5_isIn yX5_isIn, Cond.code yX5_isIn cX5_isIn 3 (some .boolean), Cond.methodLink RX5 43 yX5_of, Cond.instanceMethod yX5_of, Cond.selects RX5 yX5_of yX5_of]
def wsX5_overAll_r2 : List Cond := [Cond.code yX5_of cX5_of 3 (some .int), Cond.methodLink RX5 96 yX5_boatsOf, Cond.instanceMethod yX5_boatsOf, Cond.selects RX5 yX5_boatsOf yX5_boatsOf, Cond.code yX5_boatsOf cX5_boatsOf 4 (some .int), Cond.methodLink RX5 62 yX5_kindOf, Cond.instanceMethod yX5_kindOf, Cond.selects RX5 yX5_kindOf yX5_kindOf, Cond.code yX5_kindOf cX5_kindOf 3 (some .int), Cond.methodLink RX5 162 yX5_sumOf, Cond.instanceMethod yX5_sumOf, Cond.selects RX5 yX5_sumOf yX5_sumOf, Cond.code yX5_sumOf cX5_sumOf 7 (some .int), Cond.methodLink RX5 65 yX5_manyIn, Cond.instanceMethod yX5_manyIn, Cond.selects RX5 yX5_manyIn yX5_manyIn, Cond.code yX5_manyIn cX5_manyIn 5 (some .int), Cond.methodLink RX5 68 yX5_runsIn, Cond.instanceMethod yX5_runsIn, Cond.selects RX5 yX5_runsIn yX5_runsIn, Cond.code yX5_runsIn cX5_runsIn 5 (some .int), Cond.methodLink RX5 58 yX5_units, Cond.static yX5_units, Cond.code yX5_units cX5_units 3 (some .int)]
def wsX5_overAll_r3 : List Cond := [Cond.methodLink RX5 71 yX5_best, Cond.static yX5_best, Cond.code yX5_best cX5_best 3 (some .int), Cond.methodLink RX5 55 yX5_holds, Cond.static yX5_holds, Cond.code yX5_holds cX5_holds 3 (some .boolean), Cond.methodLink RX5 165 yX5_firstFrom, Cond.instanceMethod yX5_firstFrom, Cond.selects RX5 yX5_firstFrom yX5_firstFrom, Cond.code yX5_firstFrom cX5_firstFrom 5 (some .int), Cond.methodLink RX5 112 yX5_isNumber, Cond.static yX5_isNumber, Cond.code yX5_isNumber cX5_isNumber 1 (some .boolean)]
def wsX5_overAll : List Cond := .code yX5_overAll cX5_overAll 5 (some .int) :: ((wsX5_overAll_r1 ++ (wsX5_overAll_r2 ++ wsX5_overAll_r3)) ++ wsX50)
def wsX5_different : List Cond := .code yX5_different cX5_different 3 (some .int) :: ([.methodLink RX5 168 yX5_setsWith, .instanceMethod yX5_setsWith, .selects RX5 yX5_setsWith yX5_setsWith, .initialized RX5, .code yX5_setsWith cX5_setsWith 4 (some .int), .fieldLink RX5 7 "BoatSetsModel" "now" "[I", .methodLink RX5 51 yX5_isIn, .instanceMethod yX5_isIn, .selects RX5 yX5_isIn yX5_isIn, .code yX5_isIn cX5_isIn 3 (some .boolean), .methodLink RX5 43 yX5_of, .instanceMethod yX5_of, .selects RX5 yX5_of yX5_of, .code yX5_of cX5_of 3 (some .int)] ++ wsX50)
def wsX5_count_r1 : List Cond := [Cond.fieldLink RX5 7 "BoatSetsModel" "now" "[I", Cond.fieldLink RX5 31 "BoatSetsModel" "pasts" "I", Cond.fieldLink RX5 136 "BoatSetsModel" "typed" "I", Cond.methodLink RX5 174 yX5_overAll, Cond.instanceMethod yX5_overAll, Cond.selects RX5 yX5_overAll yX5_overAll, Cond.initialized RX5, Cond.code yX5_overAll cX5_overAll 5 (some .int), Cond.methodLink RX5 171 yX5_set, Cond.instanceMethod yX5_set, Cond.selects RX5 yX5_set yX5_set, Cond.code yX5_set cX5_set 3 (some .int), Cond.methodLink RX5 92 yX5_isSet, Cond.instanceMethod yX5_isSet, Cond.selects RX5 yX5_isSet yX5_isSet, Cond.code yX5_isSet cX5_isSet 2 (some .boolean), Cond.methodLink RX5 39 yX5_in, Cond.static yX5_in, Cond.code yX5_in cX5_in 3 (some .boolean), Cond.methodLink RX5 159 yX5_rankOf, Cond.instanceMethod yX5_rankOf, Cond.selects RX5 yX5_rankOf yX5_rankOf, Cond.code yX5_rankOf cX5_rankOf 5 (some .int), Cond.methodLink RX5 51 yX5_isIn]
def wsX5_count_r2 : List Cond := [Cond.instanceMethod yX5_isIn, Cond.selects RX5 yX5_isIn yX5_isIn, Cond.code yX5_isIn cX5_isIn 3 (some .boolean), Cond.methodLink RX5 43 yX5_of, Cond.instanceMethod yX5_of, Cond.selects RX5 yX5_of yX5_of, Cond.code yX5_of cX5_of 3 (some .int), Cond.methodLink RX5 96 yX5_boatsOf, Cond.instanceMethod yX5_boatsOf, Cond.selects RX5 yX5_boatsOf yX5_boatsOf, Cond.code yX5_boatsOf cX5_boatsOf 4 (some .int), Cond.methodLink RX5 62 yX5_kindOf, Cond.instanceMethod yX5_kindOf, Cond.selects RX5 yX5_kindOf yX5_kindOf, Cond.code yX5_kindOf cX5_kindOf 3 (some .int), Cond.methodLink RX5 162 yX5_sumOf, Cond.instanceMethod yX5_sumOf, Cond.selects RX5 yX5_sumOf yX5_sumOf, Cond.code yX5_sumOf cX5_sumOf 7 (some .int), Cond.methodLink RX5 65 yX5_manyIn, Cond.instanceMethod yX5_manyIn, Cond.selects RX5 yX5_manyIn yX5_manyIn, Cond.code yX5_manyIn cX5_manyIn 5 (some .int), Cond.methodLink RX5 68 yX5_runsIn]
def wsX5_count_r3 : List Cond := [Cond.instanceMethod yX5_runsIn, Cond.selects RX5 yX5_runsIn yX5_runsIn, Cond.code yX5_runsIn cX5_runsIn 5 (some .int), Cond.methodLink RX5 58 yX5_units, Cond.static yX5_units, Cond.code yX5_units cX5_units 3 (some .int), Cond.methodLink RX5 71 yX5_best, Cond.static yX5_best, Cond.code yX5_best cX5_best 3 (some .int), Cond.methodLink RX5 55 yX5_holds, Cond.static yX5_holds, Cond.code yX5_holds cX5_holds 3 (some .boolean), Cond.methodLink RX5 165 yX5_firstFrom, Cond.instanceMethod yX5_firstFrom, Cond.selects RX5 yX5_firstFrom yX5_firstFrom, Cond.code yX5_firstFrom cX5_firstFrom 5 (some .int), Cond.methodLink RX5 112 yX5_isNumber, Cond.static yX5_isNumber, Cond.code yX5_isNumber cX5_isNumber 1 (some .boolean), Cond.methodLink RX5 177 yX5_different, Cond.instanceMethod yX5_different, Cond.selects RX5 yX5_different yX5_different, Cond.code yX5_different cX5_different 3 (some .int), Cond.methodLink RX5 168 yX5_setsWith]
def wsX5_count_r4 : List Cond := [Cond.instanceMethod yX5_setsWith, Cond.selects RX5 yX5_setsWith yX5_setsWith, Cond.code yX5_setsWith cX5_setsWith 4 (some .int)]
def wsX5_count : List Cond := .code yX5_count cX5_count 2 (some .int) :: ((wsX5_count_r1 ++ (wsX5_count_r2 ++ (wsX5_count_r3 ++ wsX5_count_r4))) ++ wsX50)
def wsJ9_max_7cf53 : List Cond := .code yJ9_max_7cf53 cJ9_max_7cf53 2 (some .int) :: ([])
def wsJ9_min_7cf53 : List Cond := .code yJ9_min_7cf53 cJ9_min_7cf53 2 (some .int) :: ([])
def wsL_law_r1 : List Cond := [Cond.classLink RL 7 RX4, Cond.instantiable RX4 6, Cond.initialized RX4, Cond.classLink RL 10 RX5, Cond.instantiable RX5 13, Cond.initialized RX5, Cond.methodLink RL 9 yX4_init, Cond.instanceMethod yX4_init, Cond.code yX4_init cX4_init 1 none, Cond.methodLink RX4 1 objectInit, Cond.instanceMethod objectInit, Cond.code objectInit ⟨#[0xb1]⟩ 1 none, Cond.classLink RX4 7 RX1, Cond.instantiable RX1 2, Cond.initialized RX1, Cond.fieldLink RX4 10 "BoatSets" "now" "LBoatSets$Harbour;", Cond.fieldLink RX4 16 "BoatSets" "snapshot" "LBoatSets$Harbour;", Cond.classLink RX4 19 RX2, Cond.instantiable RX2 2, Cond.initialized RX2, Cond.fieldLink RX4 22 "BoatSets" "past" "LBoatSets$History;", Cond.classLink RX4 26 RX3, Cond.instantiable RX3 5, Cond.initialized RX3]
def wsL_law_r2 : List Cond := [Cond.fieldLink RX4 29 "BoatSets" "text" "LBoatSets$RangeText;", Cond.classLink RX4 33 RX0, Cond.instantiable RX0 7, Cond.initialized RX0, Cond.fieldLink RX4 36 "BoatSets" "trial" "LBoatSets$Fleet;", Cond.fieldLink RX4 40 "BoatSets" "hasSnapshot" "Z", Cond.methodLink RX4 9 yX1_init, Cond.instanceMethod yX1_init, Cond.code yX1_init cX1_init 2 none, Cond.methodLink RX1 3 objectInit, Cond.classLink RX1 9 RX0, Cond.fieldLink RX1 11 "BoatSets$Harbour" "fleets" "[LBoatSets$Fleet;", Cond.methodLink RX1 17 yX0_init, Cond.instanceMethod yX0_init, Cond.code yX0_init cX0_init 1 none, Cond.methodLink RX0 3 objectInit, Cond.arrayClass .long, Cond.fieldLink RX0 9 "BoatSets$Fleet" "words" "[J", Cond.arrayClass .int, Cond.fieldLink RX0 15 "BoatSets$Fleet" "kinds" "[I", Cond.fieldLink RX0 19 "BoatSets$Fleet" "sizes" "[I", Cond.fieldLink RX0 22 "BoatSets$Fleet" "runs" "[I", Cond.methodLink RX4 21 yX2_init, Cond.instanceMethod yX2_init]
def wsL_law_r3 : List Cond := [Cond.code yX2_init cX2_init 2 none, Cond.methodLink RX2 3 objectInit, Cond.classLink RX2 9 RX1, Cond.fieldLink RX2 11 "BoatSets$History" "states" "[LBoatSets$Harbour;", Cond.methodLink RX2 17 yX1_init, Cond.methodLink RX4 28 yX3_init, Cond.instanceMethod yX3_init, Cond.code yX3_init cX3_init 1 none, Cond.methodLink RX3 3 objectInit, Cond.arrayClass .char, Cond.fieldLink RX3 9 "BoatSets$RangeText" "characters" "[C", Cond.fieldLink RX3 15 "BoatSets$RangeText" "firsts" "[I", Cond.fieldLink RX3 19 "BoatSets$RangeText" "lasts" "[I", Cond.methodLink RX4 35 yX0_init, Cond.methodLink RL 12 yX5_init, Cond.instanceMethod yX5_init, Cond.code yX5_init cX5_init 1 none, Cond.methodLink RX5 1 objectInit, Cond.fieldLink RX5 7 "BoatSetsModel" "now" "[I", Cond.fieldLink RX5 13 "BoatSetsModel" "past" "[I", Cond.fieldLink RX5 16 "BoatSetsModel" "kept" "[I", Cond.fieldLink RX5 19 "BoatSetsModel" "trial" "[I", Cond.fieldLink RX5 22 "BoatSetsModel" "text" "[I", Cond.fieldLink RX5 25 "BoatSetsModel" "given" "[I"]
def wsL_law_r4 : List Cond := [Cond.fieldLink RX5 28 "BoatSetsModel" "numbers" "[I", Cond.methodLink RL 13 yX4_newSet, Cond.instanceMethod yX4_newSet, Cond.selects RX4 yX4_newSet yX4_newSet, Cond.code yX4_newSet cX4_newSet 2 (some .int), Cond.fieldLink RX4 44 "BoatSets$Harbour" "sets" "I", Cond.methodLink RX4 48 yX2_push, Cond.instanceMethod yX2_push, Cond.selects RX2 yX2_push yX2_push, Cond.code yX2_push cX2_push 2 none, Cond.fieldLink RX2 18 "BoatSets$History" "size" "I", Cond.methodLink RX2 22 yX2_dropOldest, Cond.instanceMethod yX2_dropOldest, Cond.selects RX2 yX2_dropOldest yX2_dropOldest, Cond.code yX2_dropOldest cX2_dropOldest 3 none, Cond.methodLink RX2 25 yX1_copyFrom, Cond.instanceMethod yX1_copyFrom, Cond.selects RX1 yX1_copyFrom yX1_copyFrom, Cond.code yX1_copyFrom cX1_copyFrom 3 none, Cond.fieldLink RX1 18 "BoatSets$Harbour" "sets" "I", Cond.methodLink RX1 22 yX0_copyFrom, Cond.instanceMethod yX0_copyFrom, Cond.selects RX0 yX0_copyFrom yX0_copyFrom, Cond.code yX0_copyFrom cX0_copyFrom 2 none]
def wsL_law_r5 : List Cond := [Cond.methodLink RX0 48 arraycopyName, Cond.native arraycopyName, Cond.static arraycopyName, Cond.initialized "java/lang/System", Cond.fieldLink RX0 28 "BoatSets$Fleet" "purse" "I", Cond.fieldLink RX0 32 "BoatSets$Fleet" "paid" "I", Cond.fieldLink RX0 35 "BoatSets$Fleet" "atSea" "Z", Cond.methodLink RX4 52 yX1_open, Cond.instanceMethod yX1_open, Cond.selects RX1 yX1_open yX1_open, Cond.code yX1_open cX1_open 2 (some .int), Cond.methodLink RX1 26 yX0_begin, Cond.instanceMethod yX0_begin, Cond.selects RX0 yX0_begin yX0_begin, Cond.code yX0_begin cX0_begin 2 none, Cond.methodLink RX0 25 yX0_clearNumbers, Cond.instanceMethod yX0_clearNumbers, Cond.selects RX0 yX0_clearNumbers yX0_clearNumbers, Cond.code yX0_clearNumbers cX0_clearNumbers 1 none, Cond.methodLink RX0 39 yJ7_fill_d0a16, Cond.static yJ7_fill_d0a16, Cond.initialized RJ7, Cond.code yJ7_fill_d0a16 cJ7_fill_d0a16 5 none, Cond.methodLink RX0 45 yJ7_fill_53178]
def wsL_law_r6 : List Cond := [Cond.static yJ7_fill_53178, Cond.code yJ7_fill_53178 cJ7_fill_53178 4 none, Cond.methodLink RL 17 yX5_newSet, Cond.instanceMethod yX5_newSet, Cond.selects RX5 yX5_newSet yX5_newSet, Cond.code yX5_newSet cX5_newSet 2 (some .int), Cond.methodLink RX5 39 yX5_in, Cond.static yX5_in, Cond.code yX5_in cX5_in 3 (some .boolean), Cond.methodLink RX5 88 yX5_records, Cond.instanceMethod yX5_records, Cond.selects RX5 yX5_records yX5_records, Cond.code yX5_records cX5_records 3 none, Cond.fieldLink RX5 31 "BoatSetsModel" "pasts" "I", Cond.methodLink RX5 35 yX5_copies, Cond.static yX5_copies, Cond.code yX5_copies cX5_copies 5 none, Cond.methodLink RX5 47 yX5_lays, Cond.instanceMethod yX5_lays, Cond.selects RX5 yX5_lays yX5_lays, Cond.code yX5_lays cX5_lays 4 none, Cond.methodLink RL 18 yX4_pay, Cond.instanceMethod yX4_pay, Cond.selects RX4 yX4_pay yX4_pay]
def wsL_law_r7 : List Cond := [Cond.code yX4_pay cX4_pay 4 (some .int), Cond.fieldLink RX4 60 "BoatSets$Harbour" "fleets" "[LBoatSets$Fleet;", Cond.fieldLink RX4 64 "BoatSets$Fleet" "purse" "I", Cond.methodLink RX4 56 yX4_isSet, Cond.instanceMethod yX4_isSet, Cond.selects RX4 yX4_isSet yX4_isSet, Cond.code yX4_isSet cX4_isSet 2 (some .boolean), Cond.methodLink RL 22 yX5_pay, Cond.instanceMethod yX5_pay, Cond.selects RX5 yX5_pay yX5_pay, Cond.code yX5_pay cX5_pay 3 (some .int), Cond.methodLink RX5 92 yX5_isSet, Cond.instanceMethod yX5_isSet, Cond.selects RX5 yX5_isSet yX5_isSet, Cond.code yX5_isSet cX5_isSet 2 (some .boolean), Cond.methodLink RX5 43 yX5_of, Cond.instanceMethod yX5_of, Cond.selects RX5 yX5_of yX5_of, Cond.code yX5_of cX5_of 3 (some .int), Cond.methodLink RL 23 yX4_sail, Cond.instanceMethod yX4_sail, Cond.selects RX4 yX4_sail yX4_sail, Cond.code yX4_sail cX4_sail 3 (some .int), Cond.fieldLink RX4 67 "BoatSets$Fleet" "atSea" "Z"]
def wsL_law_r8 : List Cond := [Cond.methodLink RX4 70 yX0_boats, Cond.instanceMethod yX0_boats, Cond.selects RX0 yX0_boats yX0_boats, Cond.code yX0_boats cX0_boats 1 (some .int), Cond.methodLink RX0 101 yX0_boatsOfKind, Cond.instanceMethod yX0_boatsOfKind, Cond.selects RX0 yX0_boatsOfKind yX0_boatsOfKind, Cond.code yX0_boatsOfKind cX0_boatsOfKind 4 (some .int), Cond.methodLink RL 26 yX5_sail, Cond.instanceMethod yX5_sail, Cond.selects RX5 yX5_sail yX5_sail, Cond.code yX5_sail cX5_sail 2 (some .int), Cond.methodLink RX5 96 yX5_boatsOf, Cond.instanceMethod yX5_boatsOf, Cond.selects RX5 yX5_boatsOf yX5_boatsOf, Cond.code yX5_boatsOf cX5_boatsOf 4 (some .int), Cond.methodLink RX5 62 yX5_kindOf, Cond.instanceMethod yX5_kindOf, Cond.selects RX5 yX5_kindOf yX5_kindOf, Cond.code yX5_kindOf cX5_kindOf 3 (some .int), Cond.methodLink RL 27 yX4_dock, Cond.instanceMethod yX4_dock, Cond.selects RX4 yX4_dock yX4_dock, Cond.code yX4_dock cX4_dock 2 (some .int)]
def wsL_law_r9 : List Cond := [Cond.methodLink RX4 74 yX0_enterHarbour, Cond.instanceMethod yX0_enterHarbour, Cond.selects RX0 yX0_enterHarbour yX0_enterHarbour, Cond.code yX0_enterHarbour cX0_enterHarbour 5 (some .int), Cond.methodLink RX0 94 yX0_baySavingMost, Cond.instanceMethod yX0_baySavingMost, Cond.selects RX0 yX0_baySavingMost yX0_baySavingMost, Cond.code yX0_baySavingMost cX0_baySavingMost 7 (some .int), Cond.methodLink RX0 88 yX0_bestKind, Cond.instanceMethod yX0_bestKind, Cond.selects RX0 yX0_bestKind yX0_bestKind, Cond.code yX0_bestKind cX0_bestKind 3 (some .int), Cond.methodLink RX0 84 yX0_canHold, Cond.instanceMethod yX0_canHold, Cond.selects RX0 yX0_canHold yX0_canHold, Cond.code yX0_canHold cX0_canHold 3 (some .boolean), Cond.methodLink RX0 91 yX0_unitsAs, Cond.instanceMethod yX0_unitsAs, Cond.selects RX0 yX0_unitsAs yX0_unitsAs, Cond.code yX0_unitsAs cX0_unitsAs 3 (some .int), Cond.methodLink RX0 81 yX0_becomeBest, Cond.instanceMethod yX0_becomeBest, Cond.selects RX0 yX0_becomeBest yX0_becomeBest, Cond.code yX0_becomeBest cX0_becomeBest 4 (some .int)]
def wsL_law_r10 : List Cond := [Cond.methodLink RL 30 yX5_dock, Cond.instanceMethod yX5_dock, Cond.selects RX5 yX5_dock yX5_dock, Cond.code yX5_dock cX5_dock 2 (some .int), Cond.methodLink RX5 109 yX5_docks, Cond.instanceMethod yX5_docks, Cond.selects RX5 yX5_docks yX5_docks, Cond.code yX5_docks cX5_docks 4 (some .int), Cond.fieldLink RX5 100 "BoatSetsModel" "looked" "I", Cond.methodLink RX5 106 yX5_nextToDock, Cond.instanceMethod yX5_nextToDock, Cond.selects RX5 yX5_nextToDock yX5_nextToDock, Cond.code yX5_nextToDock cX5_nextToDock 7 (some .int), Cond.methodLink RX5 77 yX5_tollOf, Cond.instanceMethod yX5_tollOf, Cond.selects RX5 yX5_tollOf yX5_tollOf, Cond.code yX5_tollOf cX5_tollOf 4 (some .int), Cond.methodLink RX5 74 yX5_bestOf, Cond.instanceMethod yX5_bestOf, Cond.selects RX5 yX5_bestOf yX5_bestOf, Cond.code yX5_bestOf cX5_bestOf 3 (some .int), Cond.methodLink RX5 65 yX5_manyIn, Cond.instanceMethod yX5_manyIn, Cond.selects RX5 yX5_manyIn yX5_manyIn]
def wsL_law_r11 : List Cond := [Cond.code yX5_manyIn cX5_manyIn 5 (some .int), Cond.methodLink RX5 51 yX5_isIn, Cond.instanceMethod yX5_isIn, Cond.selects RX5 yX5_isIn yX5_isIn, Cond.code yX5_isIn cX5_isIn 3 (some .boolean), Cond.methodLink RX5 68 yX5_runsIn, Cond.instanceMethod yX5_runsIn, Cond.selects RX5 yX5_runsIn yX5_runsIn, Cond.code yX5_runsIn cX5_runsIn 5 (some .int), Cond.methodLink RX5 71 yX5_best, Cond.static yX5_best, Cond.code yX5_best cX5_best 3 (some .int), Cond.methodLink RX5 55 yX5_holds, Cond.static yX5_holds, Cond.code yX5_holds cX5_holds 3 (some .boolean), Cond.methodLink RX5 58 yX5_units, Cond.static yX5_units, Cond.code yX5_units cX5_units 3 (some .int), Cond.methodLink RX5 103 yX5_unitsOf, Cond.instanceMethod yX5_unitsOf, Cond.selects RX5 yX5_unitsOf yX5_unitsOf, Cond.code yX5_unitsOf cX5_unitsOf 3 (some .int), Cond.methodLink RX5 84 yX5_becomes, Cond.instanceMethod yX5_becomes]
def wsL_law_r12 : List Cond := [Cond.selects RX5 yX5_becomes yX5_becomes, Cond.code yX5_becomes cX5_becomes 4 none, Cond.methodLink RL 31 yX4_add, Cond.instanceMethod yX4_add, Cond.selects RX4 yX4_add yX4_add, Cond.code yX4_add cX4_add 4 (some .int), Cond.fieldLink RX4 81 "BoatSets$Fleet" "kinds" "[I", Cond.methodLink RX4 77 yX4_moveRange, Cond.instanceMethod yX4_moveRange, Cond.selects RX4 yX4_moveRange yX4_moveRange, Cond.code yX4_moveRange cX4_moveRange 5 (some .int), Cond.methodLink RX4 141 yX4_isNumber, Cond.static yX4_isNumber, Cond.code yX4_isNumber cX4_isNumber 1 (some .boolean), Cond.methodLink RX4 91 yX0_copyFrom, Cond.methodLink RX4 125 yX0_move, Cond.instanceMethod yX0_move, Cond.selects RX0 yX0_move yX0_move, Cond.code yX0_move cX0_move 8 (some .int), Cond.methodLink RX0 65 Lib.Math.max.name, Cond.static Lib.Math.max.name, Cond.initialized "java/lang/Math", Cond.code Lib.Math.max.name Lib.Math.max.code 2 (some .int), Cond.methodLink RX0 71 Lib.Math.min.name]
def wsL_law_r13 : List Cond := [Cond.static Lib.Math.min.name, Cond.code Lib.Math.min.name Lib.Math.min.code 2 (some .int), Cond.methodLink RX0 58 yX0_holds, Cond.instanceMethod yX0_holds, Cond.selects RX0 yX0_holds yX0_holds, Cond.code yX0_holds cX0_holds 2 (some .boolean), Cond.methodLink RX0 74 yX0_flip, Cond.instanceMethod yX0_flip, Cond.selects RX0 yX0_flip yX0_flip, Cond.code yX0_flip cX0_flip 4 none, Cond.methodLink RX0 61 yX0_neighboursInBay, Cond.instanceMethod yX0_neighboursInBay, Cond.selects RX0 yX0_neighboursInBay yX0_neighboursInBay, Cond.code yX0_neighboursInBay cX0_neighboursInBay 4 (some .int), Cond.methodLink RX0 78 yX0_adaptBoat, Cond.instanceMethod yX0_adaptBoat, Cond.selects RX0 yX0_adaptBoat yX0_adaptBoat, Cond.code yX0_adaptBoat cX0_adaptBoat 2 (some .boolean), Cond.methodLink RX4 129 yX4_settleTrial, Cond.instanceMethod yX4_settleTrial, Cond.selects RX4 yX4_settleTrial yX4_settleTrial, Cond.code yX4_settleTrial cX4_settleTrial 3 (some .int), Cond.methodLink RL 34 yX5_add, Cond.instanceMethod yX5_add]
def wsL_law_r14 : List Cond := [Cond.selects RX5 yX5_add yX5_add, Cond.code yX5_add cX5_add 3 (some .int), Cond.methodLink RX5 112 yX5_isNumber, Cond.static yX5_isNumber, Cond.code yX5_isNumber cX5_isNumber 1 (some .boolean), Cond.methodLink RX5 115 yX5_goes, Cond.instanceMethod yX5_goes, Cond.selects RX5 yX5_goes yX5_goes, Cond.code yX5_goes cX5_goes 5 (some .boolean), Cond.methodLink RX5 80 yX5_puts, Cond.instanceMethod yX5_puts, Cond.selects RX5 yX5_puts yX5_puts, Cond.code yX5_puts cX5_puts 6 none, Cond.methodLink RL 35 yX4_remove, Cond.instanceMethod yX4_remove, Cond.selects RX4 yX4_remove yX4_remove, Cond.code yX4_remove cX4_remove 4 (some .int), Cond.fieldLink RX4 85 "BoatSets$Fleet" "sizes" "[I", Cond.methodLink RL 38 yX5_remove, Cond.instanceMethod yX5_remove, Cond.selects RX5 yX5_remove yX5_remove, Cond.code yX5_remove cX5_remove 3 (some .int), Cond.methodLink RL 39 yX4_addRange, Cond.instanceMethod yX4_addRange]
def wsL_law_r15 : List Cond := [Cond.selects RX4 yX4_addRange yX4_addRange, Cond.code yX4_addRange cX4_addRange 4 (some .int), Cond.methodLink RL 43 yX5_addRange, Cond.instanceMethod yX5_addRange, Cond.selects RX5 yX5_addRange yX5_addRange, Cond.code yX5_addRange cX5_addRange 4 (some .int), Cond.methodLink RX5 126 yX5_ranges, Cond.instanceMethod yX5_ranges, Cond.selects RX5 yX5_ranges yX5_ranges, Cond.code yX5_ranges cX5_ranges 5 (some .int), Cond.methodLink RX5 119 yX5_goesAll, Cond.instanceMethod yX5_goesAll, Cond.selects RX5 yX5_goesAll yX5_goesAll, Cond.code yX5_goesAll cX5_goesAll 7 (some .int), Cond.methodLink RX5 123 yX5_ends, Cond.instanceMethod yX5_ends, Cond.selects RX5 yX5_ends yX5_ends, Cond.code yX5_ends cX5_ends 2 (some .int), Cond.methodLink RL 44 yX4_removeRange, Cond.instanceMethod yX4_removeRange, Cond.selects RX4 yX4_removeRange yX4_removeRange, Cond.code yX4_removeRange cX4_removeRange 4 (some .int), Cond.methodLink RL 47 yX5_removeRange, Cond.instanceMethod yX5_removeRange]
def wsL_law_r16 : List Cond := [Cond.selects RX5 yX5_removeRange yX5_removeRange, Cond.code yX5_removeRange cX5_removeRange 4 (some .int), Cond.methodLink RL 48 yX4_combine, Cond.instanceMethod yX4_combine, Cond.selects RX4 yX4_combine yX4_combine, Cond.code yX4_combine cX4_combine 6 (some .int), Cond.methodLink RX4 88 yX4_isHow, Cond.static yX4_isHow, Cond.code yX4_isHow cX4_isHow 1 (some .boolean), Cond.methodLink RX4 95 yX0_fillWith, Cond.instanceMethod yX0_fillWith, Cond.selects RX0 yX0_fillWith yX0_fillWith, Cond.code yX0_fillWith cX0_fillWith 8 none, Cond.static yX4_join, Cond.code yX4_join cX4_join 5 (some .long), Cond.constantLong RX4 217 (-1), Cond.methodLink RX4 99 yX0_numbers, Cond.instanceMethod yX0_numbers, Cond.selects RX0 yX0_numbers yX0_numbers, Cond.code yX0_numbers cX0_numbers 3 (some .int), Cond.methodLink RL 52 yX5_combine, Cond.instanceMethod yX5_combine, Cond.selects RX5 yX5_combine yX5_combine, Cond.code yX5_combine cX5_combine 7 (some .int)]
def wsL_law_r17 : List Cond := [Cond.methodLink RX5 133 yX5_laysGiven, Cond.instanceMethod yX5_laysGiven, Cond.selects RX5 yX5_laysGiven yX5_laysGiven, Cond.code yX5_laysGiven cX5_laysGiven 6 (some .int), Cond.methodLink RX5 129 yX5_gives, Cond.static yX5_gives, Cond.code yX5_gives cX5_gives 3 (some .boolean), Cond.methodLink RL 53 yX4_type, Cond.instanceMethod yX4_type, Cond.selects RX4 yX4_type yX4_type, Cond.code yX4_type cX4_type 2 (some .int), Cond.fieldLink RX4 102 "BoatSets$RangeText" "length" "I", Cond.fieldLink RX4 105 "BoatSets$RangeText" "characters" "[C", Cond.methodLink RL 57 yX5_type, Cond.instanceMethod yX5_type, Cond.selects RX5 yX5_type yX5_type, Cond.code yX5_type cX5_type 2 (some .int), Cond.fieldLink RX5 136 "BoatSetsModel" "typed" "I", Cond.methodLink RL 58 yX4_clearText, Cond.instanceMethod yX4_clearText, Cond.selects RX4 yX4_clearText yX4_clearText, Cond.code yX4_clearText cX4_clearText 2 (some .int), Cond.methodLink RL 62 yX5_clearText, Cond.instanceMethod yX5_clearText]
def wsL_law_r18 : List Cond := [Cond.selects RX5 yX5_clearText yX5_clearText, Cond.code yX5_clearText cX5_clearText 2 (some .int), Cond.methodLink RL 63 yX4_readRanges, Cond.instanceMethod yX4_readRanges, Cond.selects RX4 yX4_readRanges yX4_readRanges, Cond.code yX4_readRanges cX4_readRanges 6 (some .int), Cond.fieldLink RX4 116 "BoatSets$RangeText" "ranges" "I", Cond.fieldLink RX4 119 "BoatSets$RangeText" "firsts" "[I", Cond.fieldLink RX4 122 "BoatSets$RangeText" "lasts" "[I", Cond.methodLink RX4 109 yX3_read, Cond.instanceMethod yX3_read, Cond.selects RX3 yX3_read yX3_read, Cond.code yX3_read cX3_read 7 (some .int), Cond.fieldLink RX3 22 "BoatSets$RangeText" "ranges" "I", Cond.fieldLink RX3 26 "BoatSets$RangeText" "length" "I", Cond.methodLink RX3 29 yX3_noteRange, Cond.instanceMethod yX3_noteRange, Cond.selects RX3 yX3_noteRange yX3_noteRange, Cond.code yX3_noteRange cX3_noteRange 3 none, Cond.methodLink RX4 112 yX3_hasGoodValues, Cond.instanceMethod yX3_hasGoodValues, Cond.selects RX3 yX3_hasGoodValues yX3_hasGoodValues, Cond.code yX3_hasGoodValues cX3_hasGoodValues 2 (some .boolean), Cond.methodLink RL 66 yX5_readRanges]
def wsL_law_r19 : List Cond := [Cond.instanceMethod yX5_readRanges, Cond.selects RX5 yX5_readRanges yX5_readRanges, Cond.code yX5_readRanges cX5_readRanges 6 (some .int), Cond.fieldLink RX5 145 "BoatSetsModel" "readMany" "I", Cond.methodLink RX5 152 yX5_faultOf, Cond.instanceMethod yX5_faultOf, Cond.selects RX5 yX5_faultOf yX5_faultOf, Cond.code yX5_faultOf cX5_faultOf 4 (some .int), Cond.fieldLink RX5 139 "BoatSetsModel" "at" "I", Cond.methodLink RX5 148 yX5_readsNumber, Cond.instanceMethod yX5_readsNumber, Cond.selects RX5 yX5_readsNumber yX5_readsNumber, Cond.code yX5_readsNumber cX5_readsNumber 3 (some .int), Cond.methodLink RX5 142 yX5_signAt, Cond.instanceMethod yX5_signAt, Cond.selects RX5 yX5_signAt yX5_signAt, Cond.code yX5_signAt cX5_signAt 2 (some .int), Cond.methodLink RL 67 yX4_undo, Cond.instanceMethod yX4_undo, Cond.selects RX4 yX4_undo yX4_undo, Cond.code yX4_undo cX4_undo 1 (some .int), Cond.fieldLink RX4 133 "BoatSets$History" "size" "I", Cond.methodLink RX4 136 yX2_popInto, Cond.instanceMethod yX2_popInto]
def wsL_law_r20 : List Cond := [Cond.selects RX2 yX2_popInto yX2_popInto, Cond.code yX2_popInto cX2_popInto 2 none, Cond.methodLink RL 70 yX5_undo, Cond.instanceMethod yX5_undo, Cond.selects RX5 yX5_undo yX5_undo, Cond.code yX5_undo cX5_undo 1 (some .int), Cond.methodLink RL 71 yX4_keep, Cond.instanceMethod yX4_keep, Cond.selects RX4 yX4_keep yX4_keep, Cond.code yX4_keep cX4_keep 1 (some .int), Cond.methodLink RX4 139 yX1_copyFrom, Cond.methodLink RL 74 yX5_keep, Cond.instanceMethod yX5_keep, Cond.selects RX5 yX5_keep yX5_keep, Cond.code yX5_keep cX5_keep 1 (some .int), Cond.fieldLink RX5 155 "BoatSetsModel" "isKept" "Z", Cond.methodLink RL 75 yX4_restore, Cond.instanceMethod yX4_restore, Cond.selects RX4 yX4_restore yX4_restore, Cond.code yX4_restore cX4_restore 1 (some .int), Cond.methodLink RL 78 yX5_restore, Cond.instanceMethod yX5_restore, Cond.selects RX5 yX5_restore yX5_restore, Cond.code yX5_restore cX5_restore 1 (some .int)]
def wsL_law_r21 : List Cond := [Cond.methodLink RL 79 yX4_has, Cond.instanceMethod yX4_has, Cond.selects RX4 yX4_has yX4_has, Cond.code yX4_has cX4_has 3 (some .int), Cond.methodLink RX4 144 yX0_holds, Cond.methodLink RL 82 yX5_has, Cond.instanceMethod yX5_has, Cond.selects RX5 yX5_has yX5_has, Cond.code yX5_has cX5_has 3 (some .int), Cond.methodLink RL 83 yX4_set, Cond.instanceMethod yX4_set, Cond.selects RX4 yX4_set yX4_set, Cond.code yX4_set cX4_set 4 (some .int), Cond.fieldLink RX4 150 "BoatSets$Fleet" "paid" "I", Cond.methodLink RX4 147 yX0_units, Cond.instanceMethod yX0_units, Cond.selects RX0 yX0_units yX0_units, Cond.code yX0_units cX0_units 3 (some .int), Cond.methodLink RX4 153 yX0_allRuns, Cond.instanceMethod yX0_allRuns, Cond.selects RX0 yX0_allRuns yX0_allRuns, Cond.code yX0_allRuns cX0_allRuns 3 (some .int), Cond.methodLink RX4 156 yX0_numberAt, Cond.instanceMethod yX0_numberAt]
def wsL_law_r22 : List Cond := [Cond.selects RX0 yX0_numberAt yX0_numberAt, Cond.code yX0_numberAt cX0_numberAt 5 (some .int), Cond.methodLink RX0 104 yJ13_bitCount_95d88, Cond.static yJ13_bitCount_95d88, Cond.initialized RJ13, Cond.code yJ13_bitCount_95d88 cJ13_bitCount_95d88 2 (some .int), Cond.constantLong RJ13 314 (6148914691236517205), Cond.constantLong RJ13 316 (3689348814741910323), Cond.constantLong RJ13 318 (1085102592571150095), Cond.methodLink RX0 110 yX0_placeOfBit, Cond.static yX0_placeOfBit, Cond.code yX0_placeOfBit cX0_placeOfBit 6 (some .int), Cond.methodLink RX4 159 yX0_bestUnits, Cond.instanceMethod yX0_bestUnits, Cond.selects RX0 yX0_bestUnits yX0_bestUnits, Cond.code yX0_bestUnits cX0_bestUnits 3 (some .int), Cond.methodLink RL 86 yX5_set, Cond.instanceMethod yX5_set, Cond.selects RX5 yX5_set yX5_set, Cond.code yX5_set cX5_set 3 (some .int), Cond.methodLink RX5 159 yX5_rankOf, Cond.instanceMethod yX5_rankOf, Cond.selects RX5 yX5_rankOf yX5_rankOf, Cond.code yX5_rankOf cX5_rankOf 5 (some .int)]
def wsL_law_r23 : List Cond := [Cond.methodLink RX5 162 yX5_sumOf, Cond.instanceMethod yX5_sumOf, Cond.selects RX5 yX5_sumOf yX5_sumOf, Cond.code yX5_sumOf cX5_sumOf 7 (some .int), Cond.methodLink RX5 165 yX5_firstFrom, Cond.instanceMethod yX5_firstFrom, Cond.selects RX5 yX5_firstFrom yX5_firstFrom, Cond.code yX5_firstFrom cX5_firstFrom 5 (some .int), Cond.methodLink RL 87 yX4_boat, Cond.instanceMethod yX4_boat, Cond.selects RX4 yX4_boat yX4_boat, Cond.code yX4_boat cX4_boat 5 (some .int), Cond.fieldLink RX4 162 "BoatSets$Fleet" "runs" "[I", Cond.methodLink RX4 165 yX0_unitsAs, Cond.methodLink RX4 168 yX0_bestKind, Cond.methodLink RX4 171 yX0_tollToBest, Cond.instanceMethod yX0_tollToBest, Cond.selects RX0 yX0_tollToBest yX0_tollToBest, Cond.code yX0_tollToBest cX0_tollToBest 3 (some .int), Cond.methodLink RL 90 yX5_boat, Cond.instanceMethod yX5_boat, Cond.selects RX5 yX5_boat yX5_boat, Cond.code yX5_boat cX5_boat 4 (some .int), Cond.methodLink RL 91 yX4_rank]
def wsL_law_r24 : List Cond := [Cond.instanceMethod yX4_rank, Cond.selects RX4 yX4_rank yX4_rank, Cond.code yX4_rank cX4_rank 3 (some .int), Cond.methodLink RX4 174 yX0_numbersBelow, Cond.instanceMethod yX0_numbersBelow, Cond.selects RX0 yX0_numbersBelow yX0_numbersBelow, Cond.code yX0_numbersBelow cX0_numbersBelow 6 (some .int), Cond.methodLink RL 94 yX5_rank, Cond.instanceMethod yX5_rank, Cond.selects RX5 yX5_rank yX5_rank, Cond.code yX5_rank cX5_rank 3 (some .int), Cond.methodLink RL 95 yX4_at, Cond.instanceMethod yX4_at, Cond.selects RX4 yX4_at yX4_at, Cond.code yX4_at cX4_at 3 (some .int), Cond.methodLink RL 98 yX5_at, Cond.instanceMethod yX5_at, Cond.selects RX5 yX5_at yX5_at, Cond.code yX5_at cX5_at 5 (some .int), Cond.methodLink RL 99 yX4_next, Cond.instanceMethod yX4_next, Cond.selects RX4 yX4_next yX4_next, Cond.code yX4_next cX4_next 3 (some .int), Cond.methodLink RX4 177 yX0_firstFrom]
def wsL_law_r25 : List Cond := [Cond.instanceMethod yX0_firstFrom, Cond.selects RX0 yX0_firstFrom yX0_firstFrom, Cond.code yX0_firstFrom cX0_firstFrom 2 (some .int), Cond.methodLink RX0 114 yX0_numbersBelow, Cond.methodLink RX0 117 yX0_numberAt, Cond.methodLink RL 102 yX5_next, Cond.instanceMethod yX5_next, Cond.selects RX5 yX5_next yX5_next, Cond.code yX5_next cX5_next 3 (some .int), Cond.methodLink RL 103 yX4_nearest, Cond.instanceMethod yX4_nearest, Cond.selects RX4 yX4_nearest yX4_nearest, Cond.code yX4_nearest cX4_nearest 6 (some .int), Cond.methodLink RL 106 yX5_nearest, Cond.instanceMethod yX5_nearest, Cond.selects RX5 yX5_nearest yX5_nearest, Cond.code yX5_nearest cX5_nearest 5 (some .int), Cond.methodLink RL 107 yX4_gap, Cond.instanceMethod yX4_gap, Cond.selects RX4 yX4_gap yX4_gap, Cond.code yX4_gap cX4_gap 3 (some .int), Cond.methodLink RX4 180 yX0_firstGap, Cond.instanceMethod yX0_firstGap, Cond.selects RX0 yX0_firstGap yX0_firstGap]
def wsL_law_r26 : List Cond := [Cond.code yX0_firstGap cX0_firstGap 4 (some .int), Cond.methodLink RL 110 yX5_gap, Cond.instanceMethod yX5_gap, Cond.selects RX5 yX5_gap yX5_gap, Cond.code yX5_gap cX5_gap 5 (some .int), Cond.methodLink RL 111 yX4_sizeOf, Cond.instanceMethod yX4_sizeOf, Cond.selects RX4 yX4_sizeOf yX4_sizeOf, Cond.code yX4_sizeOf cX4_sizeOf 6 (some .int), Cond.fieldLink RX4 183 "BoatSets$Fleet" "words" "[J", Cond.methodLink RX4 187 yX4_join, Cond.methodLink RX4 191 yJ13_bitCount_95d88, Cond.methodLink RL 114 yX5_sizeOf, Cond.instanceMethod yX5_sizeOf, Cond.selects RX5 yX5_sizeOf yX5_sizeOf, Cond.code yX5_sizeOf cX5_sizeOf 4 (some .int), Cond.methodLink RL 115 yX4_ofAll, Cond.instanceMethod yX4_ofAll, Cond.selects RX4 yX4_ofAll yX4_ofAll, Cond.code yX4_ofAll cX4_ofAll 2 (some .int), Cond.methodLink RX4 197 yX1_numberOfAll, Cond.instanceMethod yX1_numberOfAll, Cond.selects RX1 yX1_numberOfAll yX1_numberOfAll, Cond.code yX1_numberOfAll cX1_numberOfAll 7 (some .int)]
def wsL_law_r27 : List Cond := [Cond.methodLink RX1 48 yX1_heldByAny, Cond.instanceMethod yX1_heldByAny, Cond.selects RX1 yX1_heldByAny yX1_heldByAny, Cond.code yX1_heldByAny cX1_heldByAny 5 (some .long), Cond.fieldLink RX1 58 "BoatSets$Fleet" "words" "[J", Cond.methodLink RX1 66 yX1_holders, Cond.instanceMethod yX1_holders, Cond.selects RX1 yX1_holders yX1_holders, Cond.code yX1_holders cX1_holders 4 (some .int), Cond.methodLink RX1 62 yX0_holds, Cond.methodLink RL 118 yX5_ofAll, Cond.instanceMethod yX5_ofAll, Cond.selects RX5 yX5_ofAll yX5_ofAll, Cond.code yX5_ofAll cX5_ofAll 5 (some .int), Cond.methodLink RX5 168 yX5_setsWith, Cond.instanceMethod yX5_setsWith, Cond.selects RX5 yX5_setsWith yX5_setsWith, Cond.code yX5_setsWith cX5_setsWith 4 (some .int), Cond.methodLink RL 119 yX4_most, Cond.instanceMethod yX4_most, Cond.selects RX4 yX4_most yX4_most, Cond.code yX4_most cX4_most 1 (some .int), Cond.methodLink RX4 200 yX1_mostHeld, Cond.instanceMethod yX1_mostHeld]
def wsL_law_r28 : List Cond := [Cond.selects RX1 yX1_mostHeld yX1_mostHeld, Cond.code yX1_mostHeld cX1_mostHeld 8 (some .int), Cond.methodLink RL 122 yX5_most, Cond.instanceMethod yX5_most, Cond.selects RX5 yX5_most yX5_most, Cond.code yX5_most cX5_most 5 (some .int), Cond.methodLink RL 123 yX4_tollToDock, Cond.instanceMethod yX4_tollToDock, Cond.selects RX4 yX4_tollToDock yX4_tollToDock, Cond.code yX4_tollToDock cX4_tollToDock 2 (some .int), Cond.methodLink RL 126 yX5_tollToDock, Cond.instanceMethod yX5_tollToDock, Cond.selects RX5 yX5_tollToDock yX5_tollToDock, Cond.code yX5_tollToDock cX5_tollToDock 3 (some .int), Cond.methodLink RL 127 yX4_count, Cond.instanceMethod yX4_count, Cond.selects RX4 yX4_count yX4_count, Cond.code yX4_count cX4_count 2 (some .int), Cond.methodLink RX4 203 yX1_setsAtSea, Cond.instanceMethod yX1_setsAtSea, Cond.selects RX1 yX1_setsAtSea yX1_setsAtSea, Cond.code yX1_setsAtSea cX1_setsAtSea 3 (some .int), Cond.fieldLink RX1 30 "BoatSets$Fleet" "atSea" "Z", Cond.methodLink RX4 206 yX1_boatsOfKind]
def wsL_law_r29 : List Cond := [Cond.instanceMethod yX1_boatsOfKind, Cond.selects RX1 yX1_boatsOfKind yX1_boatsOfKind, Cond.code yX1_boatsOfKind cX1_boatsOfKind 4 (some .int), Cond.methodLink RX1 34 yX0_boatsOfKind, Cond.methodLink RX4 209 yX1_units, Cond.instanceMethod yX1_units, Cond.selects RX1 yX1_units yX1_units, Cond.code yX1_units cX1_units 3 (some .int), Cond.methodLink RX1 38 yX0_units, Cond.methodLink RX4 210 yX1_numbers, Cond.instanceMethod yX1_numbers, Cond.selects RX1 yX1_numbers yX1_numbers, Cond.code yX1_numbers cX1_numbers 3 (some .int), Cond.methodLink RX1 42 yX0_numbers, Cond.methodLink RX4 211 yX1_differentNumbers, Cond.instanceMethod yX1_differentNumbers, Cond.selects RX1 yX1_differentNumbers yX1_differentNumbers, Cond.code yX1_differentNumbers cX1_differentNumbers 3 (some .int), Cond.methodLink RX1 52 yJ13_bitCount_95d88, Cond.methodLink RX4 214 yX1_tollsPaid, Cond.instanceMethod yX1_tollsPaid, Cond.selects RX1 yX1_tollsPaid yX1_tollsPaid, Cond.code yX1_tollsPaid cX1_tollsPaid 3 (some .int), Cond.fieldLink RX1 45 "BoatSets$Fleet" "paid" "I"]
def wsL_law_r30 : List Cond := [Cond.methodLink RL 130 yX5_count, Cond.instanceMethod yX5_count, Cond.selects RX5 yX5_count yX5_count, Cond.code yX5_count cX5_count 2 (some .int), Cond.methodLink RX5 174 yX5_overAll, Cond.instanceMethod yX5_overAll, Cond.selects RX5 yX5_overAll yX5_overAll, Cond.code yX5_overAll cX5_overAll 5 (some .int), Cond.methodLink RX5 171 yX5_set, Cond.methodLink RX5 177 yX5_different, Cond.instanceMethod yX5_different, Cond.selects RX5 yX5_different yX5_different, Cond.code yX5_different cX5_different 3 (some .int)]
def wsL_law : List Cond := (wsL_law_r1 ++ (wsL_law_r2 ++ (wsL_law_r3 ++ (wsL_law_r4 ++ (wsL_law_r5 ++ (wsL_law_r6 ++ (wsL_law_r7 ++ (wsL_law_r8 ++ (wsL_law_r9 ++ (wsL_law_r10 ++ (wsL_law_r11 ++ (wsL_law_r12 ++ (wsL_law_r13 ++ (wsL_law_r14 ++ (wsL_law_r15 ++ (wsL_law_r16 ++ (wsL_law_r17 ++ (wsL_law_r18 ++ (wsL_law_r19 ++ (wsL_law_r20 ++ (wsL_law_r21 ++ (wsL_law_r22 ++ (wsL_law_r23 ++ (wsL_law_r24 ++ (wsL_law_r25 ++ (wsL_law_r26 ++ (wsL_law_r27 ++ (wsL_law_r28 ++ (wsL_law_r29 ++ wsL_law_r30))))))))))))))))))))))))))))) ++ wsX40 ++ wsX50 ++ wsX10 ++ wsX20 ++ wsX30 ++ wsX00 ++ ([] : List Cond)
abbrev vwCl : List vw_C := [(RX0, TX0, 7), (RX1, TX1, 2), (RX2, TX2, 2), (RX3, TX3, 5), (RX4, TX4, 6), (RX5, TX5, 13)]
end
section
theorem dX0_init_0 : decode cX0_init 0 = .ok (.aload_n 0, 1) := by decide +kernel
theorem dX0_init_1 : decode cX0_init 1 = .ok (.invokespecial 3, 3) := by decide +kernel
theorem dX0_init_4 : decode cX0_init 4 = .ok (.aload_n 0, 1) := by decide +kernel
theorem dX0_init_5 : decode cX0_init 5 = .ok (.bipush 32, 2) := by decide +kernel
theorem dX0_init_7 : decode cX0_init 7 = .ok (.newarray .long, 2) := by decide +kernel
theorem dX0_init_9 : decode cX0_init 9 = .ok (.putfield 9, 3) := by decide +kernel
theorem dX0_init_12 : decode cX0_init 12 = .ok (.aload_n 0, 1) := by decide +kernel
theorem dX0_init_13 : decode cX0_init 13 = .ok (.bipush 8, 2) := by decide +kernel
theorem dX0_init_15 : decode cX0_init 15 = .ok (.newarray .int, 2) := by decide +kernel
theorem dX0_init_17 : decode cX0_init 17 = .ok (.putfield 15, 3) := by decide +kernel
theorem dX0_init_20 : decode cX0_init 20 = .ok (.aload_n 0, 1) := by decide +kernel
theorem dX0_init_21 : decode cX0_init 21 = .ok (.bipush 8, 2) := by decide +kernel
theorem dX0_init_23 : decode cX0_init 23 = .ok (.newarray .int, 2) := by decide +kernel
theorem dX0_init_25 : decode cX0_init 25 = .ok (.putfield 19, 3) := by decide +kernel
theorem dX0_init_28 : decode cX0_init 28 = .ok (.aload_n 0, 1) := by decide +kernel
theorem dX0_init_29 : decode cX0_init 29 = .ok (.bipush 8, 2) := by decide +kernel
theorem dX0_init_31 : decode cX0_init 31 = .ok (.newarray .int, 2) := by decide +kernel
theorem dX0_init_33 : decode cX0_init 33 = .ok (.putfield 22, 3) := by decide +kernel
theorem dX0_init_36 : decode cX0_init 36 = .ok (.return_, 1) := by decide +kernel
set_option maxRecDepth 20000 in
theorem ggX0_begin_X0_clearNumbers : GoodIn wsX0_begin wsX0_clearNumbers := goodIn_r _ [8, 9, 10, 11, 12, 13, 14, 15, 16, 17, 18, 19, 20, 21, 22, 23, 24, 25, 26] (by decide +kernel) (by decide +kernel)
set_option maxRecDepth 20000 in
theorem gX0_begin_X0_clearNumbers : GoodIn wsX0_begin (wsV RX0 25 RX0 yX0_clearNumbers wsX0_clearNumbers) := goodIn_app (goodIn_of _ (by decide +kernel)) ggX0_begin_X0_clearNumbers
theorem dX0_begin_0 : decode cX0_begin 0 = .ok (.aload_n 0, 1) := by decide +kernel
theorem dX0_begin_1 : decode cX0_begin 1 = .ok (.invokevirtual 25, 3) := by decide +kernel
theorem dX0_begin_4 : decode cX0_begin 4 = .ok (.aload_n 0, 1) := by decide +kernel
theorem dX0_begin_5 : decode cX0_begin 5 = .ok (.iload_n 1, 1) := by decide +kernel
theorem dX0_begin_6 : decode cX0_begin 6 = .ok (.putfield 28, 3) := by decide +kernel
theorem dX0_begin_9 : decode cX0_begin 9 = .ok (.aload_n 0, 1) := by decide +kernel
theorem dX0_begin_10 : decode cX0_begin 10 = .ok (.iconst 0, 1) := by decide +kernel
theorem dX0_begin_11 : decode cX0_begin 11 = .ok (.putfield 32, 3) := by decide +kernel
theorem dX0_begin_14 : decode cX0_begin 14 = .ok (.aload_n 0, 1) := by decide +kernel
theorem dX0_begin_15 : decode cX0_begin 15 = .ok (.iconst 0, 1) := by decide +kernel
theorem dX0_begin_16 : decode cX0_begin 16 = .ok (.putfield 35, 3) := by decide +kernel
theorem dX0_begin_19 : decode cX0_begin 19 = .ok (.return_, 1) := by decide +kernel
set_option maxRecDepth 20000 in
theorem ggX0_clearNumbers_J7_fill_d0a16 : GoodIn wsX0_clearNumbers wsJ7_fill_d0a16 := goodIn_r _ [8] (by decide +kernel) (by decide +kernel)
set_option maxRecDepth 20000 in
theorem gX0_clearNumbers_J7_fill_d0a16 : GoodIn wsX0_clearNumbers (va_wsS RX0 39 yJ7_fill_d0a16 wsJ7_fill_d0a16) := goodIn_app (goodIn_of _ (by decide +kernel)) ggX0_clearNumbers_J7_fill_d0a16
set_option maxRecDepth 20000 in
theorem ggX0_clearNumbers_J7_fill_53178 : GoodIn wsX0_clearNumbers wsJ7_fill_53178 := goodIn_r _ [11] (by decide +kernel) (by decide +kernel)
set_option maxRecDepth 20000 in
theorem gX0_clearNumbers_J7_fill_53178 : GoodIn wsX0_clearNumbers (va_wsS RX0 45 yJ7_fill_53178 wsJ7_fill_53178) := goodIn_app (goodIn_of _ (by decide +kernel)) ggX0_clearNumbers_J7_fill_53178
theorem dX0_clearNumbers_0 : decode cX0_clearNumbers 0 = .ok (.aload_n 0, 1) := by decide +kernel
theorem dX0_clearNumbers_1 : decode cX0_clearNumbers 1 = .ok (.getfield 9, 3) := by decide +kernel
theorem dX0_clearNumbers_4 : decode cX0_clearNumbers 4 = .ok (.lconst 0, 1) := by decide +kernel
theorem dX0_clearNumbers_5 : decode cX0_clearNumbers 5 = .ok (.invokestatic 39, 3) := by decide +kernel
theorem dX0_clearNumbers_8 : decode cX0_clearNumbers 8 = .ok (.aload_n 0, 1) := by decide +kernel
theorem dX0_clearNumbers_9 : decode cX0_clearNumbers 9 = .ok (.getfield 15, 3) := by decide +kernel
theorem dX0_clearNumbers_12 : decode cX0_clearNumbers 12 = .ok (.iconst 0, 1) := by decide +kernel
theorem dX0_clearNumbers_13 : decode cX0_clearNumbers 13 = .ok (.invokestatic 45, 3) := by decide +kernel
theorem dX0_clearNumbers_16 : decode cX0_clearNumbers 16 = .ok (.aload_n 0, 1) := by decide +kernel
theorem dX0_clearNumbers_17 : decode cX0_clearNumbers 17 = .ok (.getfield 19, 3) := by decide +kernel
theorem dX0_clearNumbers_20 : decode cX0_clearNumbers 20 = .ok (.iconst 0, 1) := by decide +kernel
theorem dX0_clearNumbers_21 : decode cX0_clearNumbers 21 = .ok (.invokestatic 45, 3) := by decide +kernel
theorem dX0_clearNumbers_24 : decode cX0_clearNumbers 24 = .ok (.aload_n 0, 1) := by decide +kernel
theorem dX0_clearNumbers_25 : decode cX0_clearNumbers 25 = .ok (.getfield 22, 3) := by decide +kernel
theorem dX0_clearNumbers_28 : decode cX0_clearNumbers 28 = .ok (.iconst 0, 1) := by decide +kernel
theorem dX0_clearNumbers_29 : decode cX0_clearNumbers 29 = .ok (.invokestatic 45, 3) := by decide +kernel
theorem dX0_clearNumbers_32 : decode cX0_clearNumbers 32 = .ok (.return_, 1) := by decide +kernel
theorem dX0_copyFrom_0 : decode cX0_copyFrom 0 = .ok (.aload_n 1, 1) := by decide +kernel
theorem dX0_copyFrom_1 : decode cX0_copyFrom 1 = .ok (.getfield 9, 3) := by decide +kernel
theorem dX0_copyFrom_4 : decode cX0_copyFrom 4 = .ok (.iconst 0, 1) := by decide +kernel
theorem dX0_copyFrom_5 : decode cX0_copyFrom 5 = .ok (.aload_n 0, 1) := by decide +kernel
theorem dX0_copyFrom_6 : decode cX0_copyFrom 6 = .ok (.getfield 9, 3) := by decide +kernel
theorem dX0_copyFrom_9 : decode cX0_copyFrom 9 = .ok (.iconst 0, 1) := by decide +kernel
theorem dX0_copyFrom_10 : decode cX0_copyFrom 10 = .ok (.bipush 32, 2) := by decide +kernel
theorem dX0_copyFrom_12 : decode cX0_copyFrom 12 = .ok (.invokestatic 48, 3) := by decide +kernel
theorem dX0_copyFrom_15 : decode cX0_copyFrom 15 = .ok (.aload_n 1, 1) := by decide +kernel
theorem dX0_copyFrom_16 : decode cX0_copyFrom 16 = .ok (.getfield 15, 3) := by decide +kernel
theorem dX0_copyFrom_19 : decode cX0_copyFrom 19 = .ok (.iconst 0, 1) := by decide +kernel
theorem dX0_copyFrom_20 : decode cX0_copyFrom 20 = .ok (.aload_n 0, 1) := by decide +kernel
theorem dX0_copyFrom_21 : decode cX0_copyFrom 21 = .ok (.getfield 15, 3) := by decide +kernel
theorem dX0_copyFrom_24 : decode cX0_copyFrom 24 = .ok (.iconst 0, 1) := by decide +kernel
theorem dX0_copyFrom_25 : decode cX0_copyFrom 25 = .ok (.bipush 8, 2) := by decide +kernel
theorem dX0_copyFrom_27 : decode cX0_copyFrom 27 = .ok (.invokestatic 48, 3) := by decide +kernel
theorem dX0_copyFrom_30 : decode cX0_copyFrom 30 = .ok (.aload_n 1, 1) := by decide +kernel
theorem dX0_copyFrom_31 : decode cX0_copyFrom 31 = .ok (.getfield 19, 3) := by decide +kernel
theorem dX0_copyFrom_34 : decode cX0_copyFrom 34 = .ok (.iconst 0, 1) := by decide +kernel
theorem dX0_copyFrom_35 : decode cX0_copyFrom 35 = .ok (.aload_n 0, 1) := by decide +kernel
theorem dX0_copyFrom_36 : decode cX0_copyFrom 36 = .ok (.getfield 19, 3) := by decide +kernel
theorem dX0_copyFrom_39 : decode cX0_copyFrom 39 = .ok (.iconst 0, 1) := by decide +kernel
theorem dX0_copyFrom_40 : decode cX0_copyFrom 40 = .ok (.bipush 8, 2) := by decide +kernel
theorem dX0_copyFrom_42 : decode cX0_copyFrom 42 = .ok (.invokestatic 48, 3) := by decide +kernel
theorem dX0_copyFrom_45 : decode cX0_copyFrom 45 = .ok (.aload_n 1, 1) := by decide +kernel
theorem dX0_copyFrom_46 : decode cX0_copyFrom 46 = .ok (.getfield 22, 3) := by decide +kernel
theorem dX0_copyFrom_49 : decode cX0_copyFrom 49 = .ok (.iconst 0, 1) := by decide +kernel
theorem dX0_copyFrom_50 : decode cX0_copyFrom 50 = .ok (.aload_n 0, 1) := by decide +kernel
theorem dX0_copyFrom_51 : decode cX0_copyFrom 51 = .ok (.getfield 22, 3) := by decide +kernel
theorem dX0_copyFrom_54 : decode cX0_copyFrom 54 = .ok (.iconst 0, 1) := by decide +kernel
theorem dX0_copyFrom_55 : decode cX0_copyFrom 55 = .ok (.bipush 8, 2) := by decide +kernel
theorem dX0_copyFrom_57 : decode cX0_copyFrom 57 = .ok (.invokestatic 48, 3) := by decide +kernel
theorem dX0_copyFrom_60 : decode cX0_copyFrom 60 = .ok (.aload_n 0, 1) := by decide +kernel
theorem dX0_copyFrom_61 : decode cX0_copyFrom 61 = .ok (.aload_n 1, 1) := by decide +kernel
theorem dX0_copyFrom_62 : decode cX0_copyFrom 62 = .ok (.getfield 28, 3) := by decide +kernel
theorem dX0_copyFrom_65 : decode cX0_copyFrom 65 = .ok (.putfield 28, 3) := by decide +kernel
theorem dX0_copyFrom_68 : decode cX0_copyFrom 68 = .ok (.aload_n 0, 1) := by decide +kernel
theorem dX0_copyFrom_69 : decode cX0_copyFrom 69 = .ok (.aload_n 1, 1) := by decide +kernel
theorem dX0_copyFrom_70 : decode cX0_copyFrom 70 = .ok (.getfield 32, 3) := by decide +kernel
theorem dX0_copyFrom_73 : decode cX0_copyFrom 73 = .ok (.putfield 32, 3) := by decide +kernel
theorem dX0_copyFrom_76 : decode cX0_copyFrom 76 = .ok (.aload_n 0, 1) := by decide +kernel
theorem dX0_copyFrom_77 : decode cX0_copyFrom 77 = .ok (.aload_n 1, 1) := by decide +kernel
theorem dX0_copyFrom_78 : decode cX0_copyFrom 78 = .ok (.getfield 35, 3) := by decide +kernel
theorem dX0_copyFrom_81 : decode cX0_copyFrom 81 = .ok (.putfield 35, 3) := by decide +kernel
theorem dX0_copyFrom_84 : decode cX0_copyFrom 84 = .ok (.return_, 1) := by decide +kernel
set_option maxRecDepth 20000 in
theorem ggX0_holds_X4_isNumber : GoodIn wsX0_holds wsX4_isNumber := goodIn_r _ [4] (by decide +kernel) (by decide +kernel)
set_option maxRecDepth 20000 in
theorem gX0_holds_X4_isNumber_n54 : GoodIn wsX0_holds (wsX4_isNumber) := ggX0_holds_X4_isNumber
theorem dX0_holds_0 : decode cX0_holds 0 = .ok (.iload_n 1, 1) := by decide +kernel
theorem dX0_holds_1 : decode cX0_holds 1 = .ok (.invokestatic 54, 3) := by decide +kernel
theorem dX0_holds_4 : decode cX0_holds 4 = .ok (.ifCond .ne 5, 3) := by decide +kernel
theorem dX0_holds_7 : decode cX0_holds 7 = .ok (.iconst 0, 1) := by decide +kernel
theorem dX0_holds_8 : decode cX0_holds 8 = .ok (.ireturn, 1) := by decide +kernel
theorem dX0_holds_9 : decode cX0_holds 9 = .ok (.aload_n 0, 1) := by decide +kernel
theorem dX0_holds_10 : decode cX0_holds 10 = .ok (.getfield 9, 3) := by decide +kernel
theorem dX0_holds_13 : decode cX0_holds 13 = .ok (.iload_n 1, 1) := by decide +kernel
theorem dX0_holds_14 : decode cX0_holds 14 = .ok (.bipush 64, 2) := by decide +kernel
theorem dX0_holds_16 : decode cX0_holds 16 = .ok (.idiv, 1) := by decide +kernel
theorem dX0_holds_17 : decode cX0_holds 17 = .ok (.laload, 1) := by decide +kernel
theorem dX0_holds_18 : decode cX0_holds 18 = .ok (.iload_n 1, 1) := by decide +kernel
theorem dX0_holds_19 : decode cX0_holds 19 = .ok (.bipush 64, 2) := by decide +kernel
theorem dX0_holds_21 : decode cX0_holds 21 = .ok (.irem, 1) := by decide +kernel
theorem dX0_holds_22 : decode cX0_holds 22 = .ok (.lushr, 1) := by decide +kernel
theorem dX0_holds_23 : decode cX0_holds 23 = .ok (.lconst 1, 1) := by decide +kernel
theorem dX0_holds_24 : decode cX0_holds 24 = .ok (.land, 1) := by decide +kernel
theorem dX0_holds_25 : decode cX0_holds 25 = .ok (.lconst 0, 1) := by decide +kernel
theorem dX0_holds_26 : decode cX0_holds 26 = .ok (.lcmp, 1) := by decide +kernel
theorem dX0_holds_27 : decode cX0_holds 27 = .ok (.ifCond .eq 7, 3) := by decide +kernel
theorem dX0_holds_30 : decode cX0_holds 30 = .ok (.iconst 1, 1) := by decide +kernel
theorem dX0_holds_31 : decode cX0_holds 31 = .ok (.goto 4, 3) := by decide +kernel
theorem dX0_holds_34 : decode cX0_holds 34 = .ok (.iconst 0, 1) := by decide +kernel
theorem dX0_holds_35 : decode cX0_holds 35 = .ok (.ireturn, 1) := by decide +kernel
set_option maxRecDepth 20000 in
theorem ggX0_flip_X4_isNumber : GoodIn wsX0_flip wsX4_isNumber := goodIn_r _ [6] (by decide +kernel) (by decide +kernel)
set_option maxRecDepth 20000 in
theorem gX0_flip_X4_isNumber_n54 : GoodIn wsX0_flip (wsX4_isNumber) := ggX0_flip_X4_isNumber
set_option maxRecDepth 20000 in
theorem ggX0_flip_X0_holds : GoodIn wsX0_flip wsX0_holds := goodIn_r _ [11, 1, 4, 5, 6, 16, 17, 18, 19, 20, 21, 22] (by decide +kernel) (by decide +kernel)
set_option maxRecDepth 20000 in
theorem gX0_flip_X0_holds : GoodIn wsX0_flip (wsV RX0 58 RX0 yX0_holds wsX0_holds) := goodIn_app (goodIn_of _ (by decide +kernel)) ggX0_flip_X0_holds
set_option maxRecDepth 20000 in
theorem ggX0_flip_X0_neighboursInBay : GoodIn wsX0_flip wsX0_neighboursInBay := goodIn_r _ [15, 7, 8, 9, 10, 11, 1, 4, 5, 6, 16, 17, 18, 19, 20, 21, 22] (by decide +kernel) (by decide +kernel)
set_option maxRecDepth 20000 in
theorem gX0_flip_X0_neighboursInBay : GoodIn wsX0_flip (wsV RX0 61 RX0 yX0_neighboursInBay wsX0_neighboursInBay) := goodIn_app (goodIn_of _ (by decide +kernel)) ggX0_flip_X0_neighboursInBay
theorem dX0_flip_0 : decode cX0_flip 0 = .ok (.iload_n 1, 1) := by decide +kernel
theorem dX0_flip_1 : decode cX0_flip 1 = .ok (.invokestatic 54, 3) := by decide +kernel
theorem dX0_flip_4 : decode cX0_flip 4 = .ok (.ifCond .ne 4, 3) := by decide +kernel
theorem dX0_flip_7 : decode cX0_flip 7 = .ok (.return_, 1) := by decide +kernel
theorem dX0_flip_8 : decode cX0_flip 8 = .ok (.iload_n 1, 1) := by decide +kernel
theorem dX0_flip_9 : decode cX0_flip 9 = .ok (.sipush 256, 3) := by decide +kernel
theorem dX0_flip_12 : decode cX0_flip 12 = .ok (.idiv, 1) := by decide +kernel
theorem dX0_flip_13 : decode cX0_flip 13 = .ok (.istore_n 2, 1) := by decide +kernel
theorem dX0_flip_14 : decode cX0_flip 14 = .ok (.aload_n 0, 1) := by decide +kernel
theorem dX0_flip_15 : decode cX0_flip 15 = .ok (.iload_n 1, 1) := by decide +kernel
theorem dX0_flip_16 : decode cX0_flip 16 = .ok (.invokevirtual 58, 3) := by decide +kernel
theorem dX0_flip_19 : decode cX0_flip 19 = .ok (.ifCond .eq 7, 3) := by decide +kernel
theorem dX0_flip_22 : decode cX0_flip 22 = .ok (.iconst (-1), 1) := by decide +kernel
theorem dX0_flip_23 : decode cX0_flip 23 = .ok (.goto 4, 3) := by decide +kernel
theorem dX0_flip_26 : decode cX0_flip 26 = .ok (.iconst 1, 1) := by decide +kernel
theorem dX0_flip_27 : decode cX0_flip 27 = .ok (.istore_n 3, 1) := by decide +kernel
theorem dX0_flip_28 : decode cX0_flip 28 = .ok (.aload_n 0, 1) := by decide +kernel
theorem dX0_flip_29 : decode cX0_flip 29 = .ok (.getfield 9, 3) := by decide +kernel
theorem dX0_flip_32 : decode cX0_flip 32 = .ok (.iload_n 1, 1) := by decide +kernel
theorem dX0_flip_33 : decode cX0_flip 33 = .ok (.bipush 64, 2) := by decide +kernel
theorem dX0_flip_35 : decode cX0_flip 35 = .ok (.idiv, 1) := by decide +kernel
theorem dX0_flip_36 : decode cX0_flip 36 = .ok (.dup2, 1) := by decide +kernel
theorem dX0_flip_37 : decode cX0_flip 37 = .ok (.laload, 1) := by decide +kernel
theorem dX0_flip_38 : decode cX0_flip 38 = .ok (.lconst 1, 1) := by decide +kernel
theorem dX0_flip_39 : decode cX0_flip 39 = .ok (.iload_n 1, 1) := by decide +kernel
theorem dX0_flip_40 : decode cX0_flip 40 = .ok (.bipush 64, 2) := by decide +kernel
theorem dX0_flip_42 : decode cX0_flip 42 = .ok (.irem, 1) := by decide +kernel
theorem dX0_flip_43 : decode cX0_flip 43 = .ok (.lshl, 1) := by decide +kernel
theorem dX0_flip_44 : decode cX0_flip 44 = .ok (.lxor, 1) := by decide +kernel
theorem dX0_flip_45 : decode cX0_flip 45 = .ok (.lastore, 1) := by decide +kernel
theorem dX0_flip_46 : decode cX0_flip 46 = .ok (.aload_n 0, 1) := by decide +kernel
theorem dX0_flip_47 : decode cX0_flip 47 = .ok (.getfield 19, 3) := by decide +kernel
theorem dX0_flip_50 : decode cX0_flip 50 = .ok (.iload_n 2, 1) := by decide +kernel
theorem dX0_flip_51 : decode cX0_flip 51 = .ok (.dup2, 1) := by decide +kernel
theorem dX0_flip_52 : decode cX0_flip 52 = .ok (.iaload, 1) := by decide +kernel
theorem dX0_flip_53 : decode cX0_flip 53 = .ok (.iload_n 3, 1) := by decide +kernel
theorem dX0_flip_54 : decode cX0_flip 54 = .ok (.iadd, 1) := by decide +kernel
theorem dX0_flip_55 : decode cX0_flip 55 = .ok (.iastore, 1) := by decide +kernel
theorem dX0_flip_56 : decode cX0_flip 56 = .ok (.aload_n 0, 1) := by decide +kernel
theorem dX0_flip_57 : decode cX0_flip 57 = .ok (.getfield 22, 3) := by decide +kernel
theorem dX0_flip_60 : decode cX0_flip 60 = .ok (.iload_n 2, 1) := by decide +kernel
theorem dX0_flip_61 : decode cX0_flip 61 = .ok (.dup2, 1) := by decide +kernel
theorem dX0_flip_62 : decode cX0_flip 62 = .ok (.iaload, 1) := by decide +kernel
theorem dX0_flip_63 : decode cX0_flip 63 = .ok (.iload_n 3, 1) := by decide +kernel
theorem dX0_flip_64 : decode cX0_flip 64 = .ok (.iconst 1, 1) := by decide +kernel
theorem dX0_flip_65 : decode cX0_flip 65 = .ok (.aload_n 0, 1) := by decide +kernel
theorem dX0_flip_66 : decode cX0_flip 66 = .ok (.iload_n 1, 1) := by decide +kernel
theorem dX0_flip_67 : decode cX0_flip 67 = .ok (.invokevirtual 61, 3) := by decide +kernel
theorem dX0_flip_70 : decode cX0_flip 70 = .ok (.isub, 1) := by decide +kernel
theorem dX0_flip_71 : decode cX0_flip 71 = .ok (.imul, 1) := by decide +kernel
theorem dX0_flip_72 : decode cX0_flip 72 = .ok (.iadd, 1) := by decide +kernel
theorem dX0_flip_73 : decode cX0_flip 73 = .ok (.iastore, 1) := by decide +kernel
theorem dX0_flip_74 : decode cX0_flip 74 = .ok (.return_, 1) := by decide +kernel
set_option maxRecDepth 20000 in
theorem ggX0_neighboursInBay_X0_holds : GoodIn wsX0_neighboursInBay wsX0_holds := goodIn_r _ [5, 6, 7, 8, 9, 10, 11, 12, 13, 14, 15, 16] (by decide +kernel) (by decide +kernel)
set_option maxRecDepth 20000 in
theorem gX0_neighboursInBay_X0_holds : GoodIn wsX0_neighboursInBay (wsV RX0 58 RX0 yX0_holds wsX0_holds) := goodIn_app (goodIn_of _ (by decide +kernel)) ggX0_neighboursInBay_X0_holds
theorem dX0_neighboursInBay_0 : decode cX0_neighboursInBay 0 = .ok (.iload_n 1, 1) := by decide +kernel
theorem dX0_neighboursInBay_1 : decode cX0_neighboursInBay 1 = .ok (.sipush 256, 3) := by decide +kernel
theorem dX0_neighboursInBay_4 : decode cX0_neighboursInBay 4 = .ok (.irem, 1) := by decide +kernel
theorem dX0_neighboursInBay_5 : decode cX0_neighboursInBay 5 = .ok (.istore_n 2, 1) := by decide +kernel
theorem dX0_neighboursInBay_6 : decode cX0_neighboursInBay 6 = .ok (.iconst 0, 1) := by decide +kernel
theorem dX0_neighboursInBay_7 : decode cX0_neighboursInBay 7 = .ok (.istore_n 3, 1) := by decide +kernel
theorem dX0_neighboursInBay_8 : decode cX0_neighboursInBay 8 = .ok (.iload_n 2, 1) := by decide +kernel
theorem dX0_neighboursInBay_9 : decode cX0_neighboursInBay 9 = .ok (.ifCond .le 16, 3) := by decide +kernel
theorem dX0_neighboursInBay_12 : decode cX0_neighboursInBay 12 = .ok (.aload_n 0, 1) := by decide +kernel
theorem dX0_neighboursInBay_13 : decode cX0_neighboursInBay 13 = .ok (.iload_n 1, 1) := by decide +kernel
theorem dX0_neighboursInBay_14 : decode cX0_neighboursInBay 14 = .ok (.iconst 1, 1) := by decide +kernel
theorem dX0_neighboursInBay_15 : decode cX0_neighboursInBay 15 = .ok (.isub, 1) := by decide +kernel
theorem dX0_neighboursInBay_16 : decode cX0_neighboursInBay 16 = .ok (.invokevirtual 58, 3) := by decide +kernel
theorem dX0_neighboursInBay_19 : decode cX0_neighboursInBay 19 = .ok (.ifCond .eq 6, 3) := by decide +kernel
theorem dX0_neighboursInBay_22 : decode cX0_neighboursInBay 22 = .ok (.iinc 3 1, 3) := by decide +kernel
theorem dX0_neighboursInBay_25 : decode cX0_neighboursInBay 25 = .ok (.iload_n 2, 1) := by decide +kernel
theorem dX0_neighboursInBay_26 : decode cX0_neighboursInBay 26 = .ok (.sipush 255, 3) := by decide +kernel
theorem dX0_neighboursInBay_29 : decode cX0_neighboursInBay 29 = .ok (.if_icmp .ge 16, 3) := by decide +kernel
theorem dX0_neighboursInBay_32 : decode cX0_neighboursInBay 32 = .ok (.aload_n 0, 1) := by decide +kernel
theorem dX0_neighboursInBay_33 : decode cX0_neighboursInBay 33 = .ok (.iload_n 1, 1) := by decide +kernel
theorem dX0_neighboursInBay_34 : decode cX0_neighboursInBay 34 = .ok (.iconst 1, 1) := by decide +kernel
theorem dX0_neighboursInBay_35 : decode cX0_neighboursInBay 35 = .ok (.iadd, 1) := by decide +kernel
theorem dX0_neighboursInBay_36 : decode cX0_neighboursInBay 36 = .ok (.invokevirtual 58, 3) := by decide +kernel
theorem dX0_neighboursInBay_39 : decode cX0_neighboursInBay 39 = .ok (.ifCond .eq 6, 3) := by decide +kernel
theorem dX0_neighboursInBay_42 : decode cX0_neighboursInBay 42 = .ok (.iinc 3 1, 3) := by decide +kernel
theorem dX0_neighboursInBay_45 : decode cX0_neighboursInBay 45 = .ok (.iload_n 3, 1) := by decide +kernel
theorem dX0_neighboursInBay_46 : decode cX0_neighboursInBay 46 = .ok (.ireturn, 1) := by decide +kernel
set_option maxRecDepth 20000 in
theorem ggX0_move_X0_holds : GoodIn wsX0_move wsX0_holds := goodIn_r _ [12, 13, 14, 15, 16, 51, 52, 53, 54, 55, 56, 57] (by decide +kernel) (by decide +kernel)
set_option maxRecDepth 20000 in
theorem gX0_move_X0_holds : GoodIn wsX0_move (wsV RX0 58 RX0 yX0_holds wsX0_holds) := goodIn_app (goodIn_of _ (by decide +kernel)) ggX0_move_X0_holds
set_option maxRecDepth 20000 in
theorem ggX0_move_X0_flip : GoodIn wsX0_move wsX0_flip := goodIn_r _ [20, 13, 21, 22, 14, 15, 16, 8, 9, 10, 11, 12, 23, 24, 25, 26, 51, 52, 53, 54, 55, 56, 57] (by decide +kernel) (by decide +kernel)
set_option maxRecDepth 20000 in
theorem gX0_move_X0_flip : GoodIn wsX0_move (wsV RX0 74 RX0 yX0_flip wsX0_flip) := goodIn_app (goodIn_of _ (by decide +kernel)) ggX0_move_X0_flip
set_option maxRecDepth 20000 in
theorem ggX0_move_X0_adaptBoat : GoodIn wsX0_move wsX0_adaptBoat := goodIn_r _ [30, 21, 31, 32, 33, 34, 35, 11, 36, 37, 38, 39, 40, 41, 42, 43, 44, 45, 46, 22, 47, 48, 49, 50, 51, 52, 53, 54, 55, 56, 57] (by decide +kernel) (by decide +kernel)
set_option maxRecDepth 20000 in
theorem gX0_move_X0_adaptBoat : GoodIn wsX0_move (wsV RX0 78 RX0 yX0_adaptBoat wsX0_adaptBoat) := goodIn_app (goodIn_of _ (by decide +kernel)) ggX0_move_X0_adaptBoat
theorem dX0_move_0 : decode cX0_move 0 = .ok (.iload_n 1, 1) := by decide +kernel
theorem dX0_move_1 : decode cX0_move 1 = .ok (.iconst 0, 1) := by decide +kernel
theorem dX0_move_2 : decode cX0_move 2 = .ok (.invokestatic 65, 3) := by decide +kernel
theorem dX0_move_5 : decode cX0_move 5 = .ok (.istore 4, 2) := by decide +kernel
theorem dX0_move_7 : decode cX0_move 7 = .ok (.iload_n 2, 1) := by decide +kernel
theorem dX0_move_8 : decode cX0_move 8 = .ok (.sipush 2047, 3) := by decide +kernel
theorem dX0_move_11 : decode cX0_move 11 = .ok (.invokestatic 71, 3) := by decide +kernel
theorem dX0_move_14 : decode cX0_move 14 = .ok (.istore 5, 2) := by decide +kernel
theorem dX0_move_16 : decode cX0_move 16 = .ok (.iconst 0, 1) := by decide +kernel
theorem dX0_move_17 : decode cX0_move 17 = .ok (.istore 6, 2) := by decide +kernel
theorem dX0_move_19 : decode cX0_move 19 = .ok (.iload 4, 2) := by decide +kernel
theorem dX0_move_21 : decode cX0_move 21 = .ok (.istore 7, 2) := by decide +kernel
theorem dX0_move_23 : decode cX0_move 23 = .ok (.iload 7, 2) := by decide +kernel
theorem dX0_move_25 : decode cX0_move 25 = .ok (.iload 5, 2) := by decide +kernel
theorem dX0_move_27 : decode cX0_move 27 = .ok (.if_icmp .gt 44, 3) := by decide +kernel
theorem dX0_move_30 : decode cX0_move 30 = .ok (.aload_n 0, 1) := by decide +kernel
theorem dX0_move_31 : decode cX0_move 31 = .ok (.iload 7, 2) := by decide +kernel
theorem dX0_move_33 : decode cX0_move 33 = .ok (.invokevirtual 58, 3) := by decide +kernel
theorem dX0_move_36 : decode cX0_move 36 = .ok (.iload_n 3, 1) := by decide +kernel
theorem dX0_move_37 : decode cX0_move 37 = .ok (.if_icmp .eq 28, 3) := by decide +kernel
theorem dX0_move_40 : decode cX0_move 40 = .ok (.aload_n 0, 1) := by decide +kernel
theorem dX0_move_41 : decode cX0_move 41 = .ok (.iload 7, 2) := by decide +kernel
theorem dX0_move_43 : decode cX0_move 43 = .ok (.invokevirtual 74, 3) := by decide +kernel
theorem dX0_move_46 : decode cX0_move 46 = .ok (.aload_n 0, 1) := by decide +kernel
theorem dX0_move_47 : decode cX0_move 47 = .ok (.iload 7, 2) := by decide +kernel
theorem dX0_move_49 : decode cX0_move 49 = .ok (.sipush 256, 3) := by decide +kernel
theorem dX0_move_52 : decode cX0_move 52 = .ok (.idiv, 1) := by decide +kernel
theorem dX0_move_53 : decode cX0_move 53 = .ok (.invokevirtual 78, 3) := by decide +kernel
theorem dX0_move_56 : decode cX0_move 56 = .ok (.ifCond .ne 6, 3) := by decide +kernel
theorem dX0_move_59 : decode cX0_move 59 = .ok (.bipush (-3), 2) := by decide +kernel
theorem dX0_move_61 : decode cX0_move 61 = .ok (.ireturn, 1) := by decide +kernel
theorem dX0_move_62 : decode cX0_move 62 = .ok (.iinc 6 1, 3) := by decide +kernel
theorem dX0_move_65 : decode cX0_move 65 = .ok (.iinc 7 1, 3) := by decide +kernel
theorem dX0_move_68 : decode cX0_move 68 = .ok (.goto (-45), 3) := by decide +kernel
theorem dX0_move_71 : decode cX0_move 71 = .ok (.iload 6, 2) := by decide +kernel
theorem dX0_move_73 : decode cX0_move 73 = .ok (.ireturn, 1) := by decide +kernel
set_option maxRecDepth 20000 in
theorem ggX0_adaptBoat_X0_becomeBest : GoodIn wsX0_adaptBoat wsX0_becomeBest := goodIn_r _ [8, 2, 9, 10, 11, 12, 13, 7, 14, 15, 16, 17, 18, 1, 19, 20, 21, 22, 23, 24, 25, 26, 27, 28, 29, 30] (by decide +kernel) (by decide +kernel)
set_option maxRecDepth 20000 in
theorem gX0_adaptBoat_X0_becomeBest : GoodIn wsX0_adaptBoat (wsV RX0 81 RX0 yX0_becomeBest wsX0_becomeBest) := goodIn_app (goodIn_of _ (by decide +kernel)) ggX0_adaptBoat_X0_becomeBest
set_option maxRecDepth 20000 in
theorem ggX0_adaptBoat_X0_canHold : GoodIn wsX0_adaptBoat wsX0_canHold := goodIn_r _ [18, 1, 19, 24, 25, 26, 27, 28, 29, 30] (by decide +kernel) (by decide +kernel)
set_option maxRecDepth 20000 in
theorem gX0_adaptBoat_X0_canHold : GoodIn wsX0_adaptBoat (wsV RX0 84 RX0 yX0_canHold wsX0_canHold) := goodIn_app (goodIn_of _ (by decide +kernel)) ggX0_adaptBoat_X0_canHold
theorem dX0_adaptBoat_0 : decode cX0_adaptBoat 0 = .ok (.aload_n 0, 1) := by decide +kernel
theorem dX0_adaptBoat_1 : decode cX0_adaptBoat 1 = .ok (.getfield 19, 3) := by decide +kernel
theorem dX0_adaptBoat_4 : decode cX0_adaptBoat 4 = .ok (.iload_n 1, 1) := by decide +kernel
theorem dX0_adaptBoat_5 : decode cX0_adaptBoat 5 = .ok (.iaload, 1) := by decide +kernel
theorem dX0_adaptBoat_6 : decode cX0_adaptBoat 6 = .ok (.ifCond .ne 12, 3) := by decide +kernel
theorem dX0_adaptBoat_9 : decode cX0_adaptBoat 9 = .ok (.aload_n 0, 1) := by decide +kernel
theorem dX0_adaptBoat_10 : decode cX0_adaptBoat 10 = .ok (.getfield 15, 3) := by decide +kernel
theorem dX0_adaptBoat_13 : decode cX0_adaptBoat 13 = .ok (.iload_n 1, 1) := by decide +kernel
theorem dX0_adaptBoat_14 : decode cX0_adaptBoat 14 = .ok (.iconst 0, 1) := by decide +kernel
theorem dX0_adaptBoat_15 : decode cX0_adaptBoat 15 = .ok (.iastore, 1) := by decide +kernel
theorem dX0_adaptBoat_16 : decode cX0_adaptBoat 16 = .ok (.iconst 1, 1) := by decide +kernel
theorem dX0_adaptBoat_17 : decode cX0_adaptBoat 17 = .ok (.ireturn, 1) := by decide +kernel
theorem dX0_adaptBoat_18 : decode cX0_adaptBoat 18 = .ok (.aload_n 0, 1) := by decide +kernel
theorem dX0_adaptBoat_19 : decode cX0_adaptBoat 19 = .ok (.getfield 35, 3) := by decide +kernel
theorem dX0_adaptBoat_22 : decode cX0_adaptBoat 22 = .ok (.ifCond .ne 9, 3) := by decide +kernel
theorem dX0_adaptBoat_25 : decode cX0_adaptBoat 25 = .ok (.aload_n 0, 1) := by decide +kernel
theorem dX0_adaptBoat_26 : decode cX0_adaptBoat 26 = .ok (.iload_n 1, 1) := by decide +kernel
theorem dX0_adaptBoat_27 : decode cX0_adaptBoat 27 = .ok (.invokevirtual 81, 3) := by decide +kernel
theorem dX0_adaptBoat_30 : decode cX0_adaptBoat 30 = .ok (.pop, 1) := by decide +kernel
theorem dX0_adaptBoat_31 : decode cX0_adaptBoat 31 = .ok (.aload_n 0, 1) := by decide +kernel
theorem dX0_adaptBoat_32 : decode cX0_adaptBoat 32 = .ok (.iload_n 1, 1) := by decide +kernel
theorem dX0_adaptBoat_33 : decode cX0_adaptBoat 33 = .ok (.aload_n 0, 1) := by decide +kernel
theorem dX0_adaptBoat_34 : decode cX0_adaptBoat 34 = .ok (.getfield 15, 3) := by decide +kernel
theorem dX0_adaptBoat_37 : decode cX0_adaptBoat 37 = .ok (.iload_n 1, 1) := by decide +kernel
theorem dX0_adaptBoat_38 : decode cX0_adaptBoat 38 = .ok (.iaload, 1) := by decide +kernel
theorem dX0_adaptBoat_39 : decode cX0_adaptBoat 39 = .ok (.invokevirtual 84, 3) := by decide +kernel
theorem dX0_adaptBoat_42 : decode cX0_adaptBoat 42 = .ok (.ireturn, 1) := by decide +kernel
set_option maxRecDepth 20000 in
theorem ggX0_becomeBest_X0_bestKind : GoodIn wsX0_becomeBest wsX0_bestKind := goodIn_r _ [8, 9, 10, 11, 7, 12, 13, 14, 15, 16, 17, 18, 19, 20, 21, 22, 23, 24, 25] (by decide +kernel) (by decide +kernel)
set_option maxRecDepth 20000 in
theorem gX0_becomeBest_X0_bestKind : GoodIn wsX0_becomeBest (wsV RX0 88 RX0 yX0_bestKind wsX0_bestKind) := goodIn_app (goodIn_of _ (by decide +kernel)) ggX0_becomeBest_X0_bestKind
set_option maxRecDepth 20000 in
theorem ggX0_becomeBest_X0_unitsAs : GoodIn wsX0_becomeBest wsX0_unitsAs := goodIn_r _ [18, 13, 14, 19, 20, 21, 22, 23, 24, 25] (by decide +kernel) (by decide +kernel)
set_option maxRecDepth 20000 in
theorem gX0_becomeBest_X0_unitsAs : GoodIn wsX0_becomeBest (wsV RX0 91 RX0 yX0_unitsAs wsX0_unitsAs) := goodIn_app (goodIn_of _ (by decide +kernel)) ggX0_becomeBest_X0_unitsAs
theorem dX0_becomeBest_0 : decode cX0_becomeBest 0 = .ok (.aload_n 0, 1) := by decide +kernel
theorem dX0_becomeBest_1 : decode cX0_becomeBest 1 = .ok (.iload_n 1, 1) := by decide +kernel
theorem dX0_becomeBest_2 : decode cX0_becomeBest 2 = .ok (.invokevirtual 88, 3) := by decide +kernel
theorem dX0_becomeBest_5 : decode cX0_becomeBest 5 = .ok (.istore_n 2, 1) := by decide +kernel
theorem dX0_becomeBest_6 : decode cX0_becomeBest 6 = .ok (.aload_n 0, 1) := by decide +kernel
theorem dX0_becomeBest_7 : decode cX0_becomeBest 7 = .ok (.iload_n 1, 1) := by decide +kernel
theorem dX0_becomeBest_8 : decode cX0_becomeBest 8 = .ok (.iload_n 2, 1) := by decide +kernel
theorem dX0_becomeBest_9 : decode cX0_becomeBest 9 = .ok (.invokevirtual 91, 3) := by decide +kernel
theorem dX0_becomeBest_12 : decode cX0_becomeBest 12 = .ok (.istore_n 3, 1) := by decide +kernel
theorem dX0_becomeBest_13 : decode cX0_becomeBest 13 = .ok (.iload_n 2, 1) := by decide +kernel
theorem dX0_becomeBest_14 : decode cX0_becomeBest 14 = .ok (.aload_n 0, 1) := by decide +kernel
theorem dX0_becomeBest_15 : decode cX0_becomeBest 15 = .ok (.getfield 15, 3) := by decide +kernel
theorem dX0_becomeBest_18 : decode cX0_becomeBest 18 = .ok (.iload_n 1, 1) := by decide +kernel
theorem dX0_becomeBest_19 : decode cX0_becomeBest 19 = .ok (.iaload, 1) := by decide +kernel
theorem dX0_becomeBest_20 : decode cX0_becomeBest 20 = .ok (.if_icmp .eq 11, 3) := by decide +kernel
theorem dX0_becomeBest_23 : decode cX0_becomeBest 23 = .ok (.iload_n 3, 1) := by decide +kernel
theorem dX0_becomeBest_24 : decode cX0_becomeBest 24 = .ok (.aload_n 0, 1) := by decide +kernel
theorem dX0_becomeBest_25 : decode cX0_becomeBest 25 = .ok (.getfield 28, 3) := by decide +kernel
theorem dX0_becomeBest_28 : decode cX0_becomeBest 28 = .ok (.if_icmp .le 5, 3) := by decide +kernel
theorem dX0_becomeBest_31 : decode cX0_becomeBest 31 = .ok (.iconst 0, 1) := by decide +kernel
theorem dX0_becomeBest_32 : decode cX0_becomeBest 32 = .ok (.ireturn, 1) := by decide +kernel
theorem dX0_becomeBest_33 : decode cX0_becomeBest 33 = .ok (.aload_n 0, 1) := by decide +kernel
theorem dX0_becomeBest_34 : decode cX0_becomeBest 34 = .ok (.dup, 1) := by decide +kernel
theorem dX0_becomeBest_35 : decode cX0_becomeBest 35 = .ok (.getfield 28, 3) := by decide +kernel
theorem dX0_becomeBest_38 : decode cX0_becomeBest 38 = .ok (.iload_n 3, 1) := by decide +kernel
theorem dX0_becomeBest_39 : decode cX0_becomeBest 39 = .ok (.isub, 1) := by decide +kernel
theorem dX0_becomeBest_40 : decode cX0_becomeBest 40 = .ok (.putfield 28, 3) := by decide +kernel
theorem dX0_becomeBest_43 : decode cX0_becomeBest 43 = .ok (.aload_n 0, 1) := by decide +kernel
theorem dX0_becomeBest_44 : decode cX0_becomeBest 44 = .ok (.dup, 1) := by decide +kernel
theorem dX0_becomeBest_45 : decode cX0_becomeBest 45 = .ok (.getfield 32, 3) := by decide +kernel
theorem dX0_becomeBest_48 : decode cX0_becomeBest 48 = .ok (.iload_n 3, 1) := by decide +kernel
theorem dX0_becomeBest_49 : decode cX0_becomeBest 49 = .ok (.iadd, 1) := by decide +kernel
theorem dX0_becomeBest_50 : decode cX0_becomeBest 50 = .ok (.putfield 32, 3) := by decide +kernel
theorem dX0_becomeBest_53 : decode cX0_becomeBest 53 = .ok (.aload_n 0, 1) := by decide +kernel
theorem dX0_becomeBest_54 : decode cX0_becomeBest 54 = .ok (.getfield 15, 3) := by decide +kernel
theorem dX0_becomeBest_57 : decode cX0_becomeBest 57 = .ok (.iload_n 1, 1) := by decide +kernel
theorem dX0_becomeBest_58 : decode cX0_becomeBest 58 = .ok (.iload_n 2, 1) := by decide +kernel
theorem dX0_becomeBest_59 : decode cX0_becomeBest 59 = .ok (.iastore, 1) := by decide +kernel
theorem dX0_becomeBest_60 : decode cX0_becomeBest 60 = .ok (.iload_n 3, 1) := by decide +kernel
theorem dX0_becomeBest_61 : decode cX0_becomeBest 61 = .ok (.ireturn, 1) := by decide +kernel
set_option maxRecDepth 20000 in
theorem ggX0_enterHarbour_X0_baySavingMost : GoodIn wsX0_enterHarbour wsX0_baySavingMost := goodIn_r _ [6, 7, 8, 9, 10, 5, 11, 12, 13, 14, 15, 16, 17, 18, 19, 20, 21, 28, 29, 30, 31, 32, 33, 34] (by decide +kernel) (by decide +kernel)
set_option maxRecDepth 20000 in
theorem gX0_enterHarbour_X0_baySavingMost : GoodIn wsX0_enterHarbour (wsV RX0 94 RX0 yX0_baySavingMost wsX0_baySavingMost) := goodIn_app (goodIn_of _ (by decide +kernel)) ggX0_enterHarbour_X0_baySavingMost
set_option maxRecDepth 20000 in
theorem ggX0_enterHarbour_X0_becomeBest : GoodIn wsX0_enterHarbour wsX0_becomeBest := goodIn_r _ [25, 7, 26, 27, 8, 9, 10, 5, 11, 12, 13, 14, 15, 16, 17, 18, 19, 20, 21, 28, 29, 30, 31, 32, 33, 34] (by decide +kernel) (by decide +kernel)
set_option maxRecDepth 20000 in
theorem gX0_enterHarbour_X0_becomeBest : GoodIn wsX0_enterHarbour (wsV RX0 81 RX0 yX0_becomeBest wsX0_becomeBest) := goodIn_app (goodIn_of _ (by decide +kernel)) ggX0_enterHarbour_X0_becomeBest
theorem dX0_enterHarbour_0 : decode cX0_enterHarbour 0 = .ok (.aload_n 0, 1) := by decide +kernel
theorem dX0_enterHarbour_1 : decode cX0_enterHarbour 1 = .ok (.iconst 0, 1) := by decide +kernel
theorem dX0_enterHarbour_2 : decode cX0_enterHarbour 2 = .ok (.putfield 35, 3) := by decide +kernel
theorem dX0_enterHarbour_5 : decode cX0_enterHarbour 5 = .ok (.iconst 0, 1) := by decide +kernel
theorem dX0_enterHarbour_6 : decode cX0_enterHarbour 6 = .ok (.istore_n 1, 1) := by decide +kernel
theorem dX0_enterHarbour_7 : decode cX0_enterHarbour 7 = .ok (.iconst 0, 1) := by decide +kernel
theorem dX0_enterHarbour_8 : decode cX0_enterHarbour 8 = .ok (.istore_n 2, 1) := by decide +kernel
theorem dX0_enterHarbour_9 : decode cX0_enterHarbour 9 = .ok (.iconst 0, 1) := by decide +kernel
theorem dX0_enterHarbour_10 : decode cX0_enterHarbour 10 = .ok (.istore_n 3, 1) := by decide +kernel
theorem dX0_enterHarbour_11 : decode cX0_enterHarbour 11 = .ok (.iload_n 3, 1) := by decide +kernel
theorem dX0_enterHarbour_12 : decode cX0_enterHarbour 12 = .ok (.bipush 8, 2) := by decide +kernel
theorem dX0_enterHarbour_14 : decode cX0_enterHarbour 14 = .ok (.if_icmp .ge 39, 3) := by decide +kernel
theorem dX0_enterHarbour_17 : decode cX0_enterHarbour 17 = .ok (.aload_n 0, 1) := by decide +kernel
theorem dX0_enterHarbour_18 : decode cX0_enterHarbour 18 = .ok (.iload_n 2, 1) := by decide +kernel
theorem dX0_enterHarbour_19 : decode cX0_enterHarbour 19 = .ok (.invokevirtual 94, 3) := by decide +kernel
theorem dX0_enterHarbour_22 : decode cX0_enterHarbour 22 = .ok (.istore 4, 2) := by decide +kernel
theorem dX0_enterHarbour_24 : decode cX0_enterHarbour 24 = .ok (.iload 4, 2) := by decide +kernel
theorem dX0_enterHarbour_26 : decode cX0_enterHarbour 26 = .ok (.bipush (-5), 2) := by decide +kernel
theorem dX0_enterHarbour_28 : decode cX0_enterHarbour 28 = .ok (.if_icmp .eq 19, 3) := by decide +kernel
theorem dX0_enterHarbour_31 : decode cX0_enterHarbour 31 = .ok (.iload_n 2, 1) := by decide +kernel
theorem dX0_enterHarbour_32 : decode cX0_enterHarbour 32 = .ok (.iconst 1, 1) := by decide +kernel
theorem dX0_enterHarbour_33 : decode cX0_enterHarbour 33 = .ok (.iload 4, 2) := by decide +kernel
theorem dX0_enterHarbour_35 : decode cX0_enterHarbour 35 = .ok (.ishl, 1) := by decide +kernel
theorem dX0_enterHarbour_36 : decode cX0_enterHarbour 36 = .ok (.ior, 1) := by decide +kernel
theorem dX0_enterHarbour_37 : decode cX0_enterHarbour 37 = .ok (.istore_n 2, 1) := by decide +kernel
theorem dX0_enterHarbour_38 : decode cX0_enterHarbour 38 = .ok (.iload_n 1, 1) := by decide +kernel
theorem dX0_enterHarbour_39 : decode cX0_enterHarbour 39 = .ok (.aload_n 0, 1) := by decide +kernel
theorem dX0_enterHarbour_40 : decode cX0_enterHarbour 40 = .ok (.iload 4, 2) := by decide +kernel
theorem dX0_enterHarbour_42 : decode cX0_enterHarbour 42 = .ok (.invokevirtual 81, 3) := by decide +kernel
theorem dX0_enterHarbour_45 : decode cX0_enterHarbour 45 = .ok (.iadd, 1) := by decide +kernel
theorem dX0_enterHarbour_46 : decode cX0_enterHarbour 46 = .ok (.istore_n 1, 1) := by decide +kernel
theorem dX0_enterHarbour_47 : decode cX0_enterHarbour 47 = .ok (.iinc 3 1, 3) := by decide +kernel
theorem dX0_enterHarbour_50 : decode cX0_enterHarbour 50 = .ok (.goto (-39), 3) := by decide +kernel
theorem dX0_enterHarbour_53 : decode cX0_enterHarbour 53 = .ok (.iload_n 1, 1) := by decide +kernel
theorem dX0_enterHarbour_54 : decode cX0_enterHarbour 54 = .ok (.ireturn, 1) := by decide +kernel
set_option maxRecDepth 20000 in
theorem ggX0_baySavingMost_X0_bestKind : GoodIn wsX0_baySavingMost wsX0_bestKind := goodIn_r _ [6, 7, 8, 9, 5, 10, 11, 12, 13, 14, 15, 16, 17, 18, 19, 20, 21, 22, 23] (by decide +kernel) (by decide +kernel)
set_option maxRecDepth 20000 in
theorem gX0_baySavingMost_X0_bestKind : GoodIn wsX0_baySavingMost (wsV RX0 88 RX0 yX0_bestKind wsX0_bestKind) := goodIn_app (goodIn_of _ (by decide +kernel)) ggX0_baySavingMost_X0_bestKind
set_option maxRecDepth 20000 in
theorem ggX0_baySavingMost_X0_unitsAs : GoodIn wsX0_baySavingMost wsX0_unitsAs := goodIn_r _ [16, 11, 12, 17, 18, 19, 20, 21, 22, 23] (by decide +kernel) (by decide +kernel)
set_option maxRecDepth 20000 in
theorem gX0_baySavingMost_X0_unitsAs : GoodIn wsX0_baySavingMost (wsV RX0 91 RX0 yX0_unitsAs wsX0_unitsAs) := goodIn_app (goodIn_of _ (by decide +kernel)) ggX0_baySavingMost_X0_unitsAs
theorem dX0_baySavingMost_0 : decode cX0_baySavingMost 0 = .ok (.bipush (-5), 2) := by decide +kernel
theorem dX0_baySavingMost_2 : decode cX0_baySavingMost 2 = .ok (.istore_n 2, 1) := by decide +kernel
theorem dX0_baySavingMost_3 : decode cX0_baySavingMost 3 = .ok (.iconst (-1), 1) := by decide +kernel
theorem dX0_baySavingMost_4 : decode cX0_baySavingMost 4 = .ok (.istore_n 3, 1) := by decide +kernel
theorem dX0_baySavingMost_5 : decode cX0_baySavingMost 5 = .ok (.iconst 0, 1) := by decide +kernel
theorem dX0_baySavingMost_6 : decode cX0_baySavingMost 6 = .ok (.istore 4, 2) := by decide +kernel
theorem dX0_baySavingMost_8 : decode cX0_baySavingMost 8 = .ok (.iload 4, 2) := by decide +kernel
theorem dX0_baySavingMost_10 : decode cX0_baySavingMost 10 = .ok (.bipush 8, 2) := by decide +kernel
theorem dX0_baySavingMost_12 : decode cX0_baySavingMost 12 = .ok (.if_icmp .ge 74, 3) := by decide +kernel
theorem dX0_baySavingMost_15 : decode cX0_baySavingMost 15 = .ok (.aload_n 0, 1) := by decide +kernel
theorem dX0_baySavingMost_16 : decode cX0_baySavingMost 16 = .ok (.iload 4, 2) := by decide +kernel
theorem dX0_baySavingMost_18 : decode cX0_baySavingMost 18 = .ok (.invokevirtual 88, 3) := by decide +kernel
theorem dX0_baySavingMost_21 : decode cX0_baySavingMost 21 = .ok (.istore 5, 2) := by decide +kernel
theorem dX0_baySavingMost_23 : decode cX0_baySavingMost 23 = .ok (.aload_n 0, 1) := by decide +kernel
theorem dX0_baySavingMost_24 : decode cX0_baySavingMost 24 = .ok (.iload 4, 2) := by decide +kernel
theorem dX0_baySavingMost_26 : decode cX0_baySavingMost 26 = .ok (.aload_n 0, 1) := by decide +kernel
theorem dX0_baySavingMost_27 : decode cX0_baySavingMost 27 = .ok (.getfield 15, 3) := by decide +kernel
theorem dX0_baySavingMost_30 : decode cX0_baySavingMost 30 = .ok (.iload 4, 2) := by decide +kernel
theorem dX0_baySavingMost_32 : decode cX0_baySavingMost 32 = .ok (.iaload, 1) := by decide +kernel
theorem dX0_baySavingMost_33 : decode cX0_baySavingMost 33 = .ok (.invokevirtual 91, 3) := by decide +kernel
theorem dX0_baySavingMost_36 : decode cX0_baySavingMost 36 = .ok (.aload_n 0, 1) := by decide +kernel
theorem dX0_baySavingMost_37 : decode cX0_baySavingMost 37 = .ok (.iload 4, 2) := by decide +kernel
theorem dX0_baySavingMost_39 : decode cX0_baySavingMost 39 = .ok (.iload 5, 2) := by decide +kernel
theorem dX0_baySavingMost_41 : decode cX0_baySavingMost 41 = .ok (.invokevirtual 91, 3) := by decide +kernel
theorem dX0_baySavingMost_44 : decode cX0_baySavingMost 44 = .ok (.isub, 1) := by decide +kernel
theorem dX0_baySavingMost_45 : decode cX0_baySavingMost 45 = .ok (.istore 6, 2) := by decide +kernel
theorem dX0_baySavingMost_47 : decode cX0_baySavingMost 47 = .ok (.iload_n 1, 1) := by decide +kernel
theorem dX0_baySavingMost_48 : decode cX0_baySavingMost 48 = .ok (.iload 4, 2) := by decide +kernel
theorem dX0_baySavingMost_50 : decode cX0_baySavingMost 50 = .ok (.ishr, 1) := by decide +kernel
theorem dX0_baySavingMost_51 : decode cX0_baySavingMost 51 = .ok (.iconst 1, 1) := by decide +kernel
theorem dX0_baySavingMost_52 : decode cX0_baySavingMost 52 = .ok (.iand, 1) := by decide +kernel
theorem dX0_baySavingMost_53 : decode cX0_baySavingMost 53 = .ok (.ifCond .ne 27, 3) := by decide +kernel
theorem dX0_baySavingMost_56 : decode cX0_baySavingMost 56 = .ok (.aload_n 0, 1) := by decide +kernel
theorem dX0_baySavingMost_57 : decode cX0_baySavingMost 57 = .ok (.getfield 15, 3) := by decide +kernel
theorem dX0_baySavingMost_60 : decode cX0_baySavingMost 60 = .ok (.iload 4, 2) := by decide +kernel
theorem dX0_baySavingMost_62 : decode cX0_baySavingMost 62 = .ok (.iaload, 1) := by decide +kernel
theorem dX0_baySavingMost_63 : decode cX0_baySavingMost 63 = .ok (.iload 5, 2) := by decide +kernel
theorem dX0_baySavingMost_65 : decode cX0_baySavingMost 65 = .ok (.if_icmp .eq 15, 3) := by decide +kernel
theorem dX0_baySavingMost_68 : decode cX0_baySavingMost 68 = .ok (.iload 6, 2) := by decide +kernel
theorem dX0_baySavingMost_70 : decode cX0_baySavingMost 70 = .ok (.iload_n 3, 1) := by decide +kernel
theorem dX0_baySavingMost_71 : decode cX0_baySavingMost 71 = .ok (.if_icmp .le 9, 3) := by decide +kernel
theorem dX0_baySavingMost_74 : decode cX0_baySavingMost 74 = .ok (.iload 4, 2) := by decide +kernel
theorem dX0_baySavingMost_76 : decode cX0_baySavingMost 76 = .ok (.istore_n 2, 1) := by decide +kernel
theorem dX0_baySavingMost_77 : decode cX0_baySavingMost 77 = .ok (.iload 6, 2) := by decide +kernel
theorem dX0_baySavingMost_79 : decode cX0_baySavingMost 79 = .ok (.istore_n 3, 1) := by decide +kernel
theorem dX0_baySavingMost_80 : decode cX0_baySavingMost 80 = .ok (.iinc 4 1, 3) := by decide +kernel
theorem dX0_baySavingMost_83 : decode cX0_baySavingMost 83 = .ok (.goto (-75), 3) := by decide +kernel
theorem dX0_baySavingMost_86 : decode cX0_baySavingMost 86 = .ok (.iload_n 2, 1) := by decide +kernel
theorem dX0_baySavingMost_87 : decode cX0_baySavingMost 87 = .ok (.ireturn, 1) := by decide +kernel
theorem dX0_canHold_0 : decode cX0_canHold 0 = .ok (.iload_n 2, 1) := by decide +kernel
theorem dX0_canHold_1 : decode cX0_canHold 1 = .ok (.lookupswitch 61 #[(0, 27), (2, 44)], 27) := by decide +kernel
theorem dX0_canHold_28 : decode cX0_canHold 28 = .ok (.aload_n 0, 1) := by decide +kernel
theorem dX0_canHold_29 : decode cX0_canHold 29 = .ok (.getfield 19, 3) := by decide +kernel
theorem dX0_canHold_32 : decode cX0_canHold 32 = .ok (.iload_n 1, 1) := by decide +kernel
theorem dX0_canHold_33 : decode cX0_canHold 33 = .ok (.iaload, 1) := by decide +kernel
theorem dX0_canHold_34 : decode cX0_canHold 34 = .ok (.bipush 24, 2) := by decide +kernel
theorem dX0_canHold_36 : decode cX0_canHold 36 = .ok (.if_icmp .gt 7, 3) := by decide +kernel
theorem dX0_canHold_39 : decode cX0_canHold 39 = .ok (.iconst 1, 1) := by decide +kernel
theorem dX0_canHold_40 : decode cX0_canHold 40 = .ok (.goto 4, 3) := by decide +kernel
theorem dX0_canHold_43 : decode cX0_canHold 43 = .ok (.iconst 0, 1) := by decide +kernel
theorem dX0_canHold_44 : decode cX0_canHold 44 = .ok (.ireturn, 1) := by decide +kernel
theorem dX0_canHold_45 : decode cX0_canHold 45 = .ok (.aload_n 0, 1) := by decide +kernel
theorem dX0_canHold_46 : decode cX0_canHold 46 = .ok (.getfield 22, 3) := by decide +kernel
theorem dX0_canHold_49 : decode cX0_canHold 49 = .ok (.iload_n 1, 1) := by decide +kernel
theorem dX0_canHold_50 : decode cX0_canHold 50 = .ok (.iaload, 1) := by decide +kernel
theorem dX0_canHold_51 : decode cX0_canHold 51 = .ok (.bipush 8, 2) := by decide +kernel
theorem dX0_canHold_53 : decode cX0_canHold 53 = .ok (.if_icmp .gt 7, 3) := by decide +kernel
theorem dX0_canHold_56 : decode cX0_canHold 56 = .ok (.iconst 1, 1) := by decide +kernel
theorem dX0_canHold_57 : decode cX0_canHold 57 = .ok (.goto 4, 3) := by decide +kernel
theorem dX0_canHold_60 : decode cX0_canHold 60 = .ok (.iconst 0, 1) := by decide +kernel
theorem dX0_canHold_61 : decode cX0_canHold 61 = .ok (.ireturn, 1) := by decide +kernel
theorem dX0_canHold_62 : decode cX0_canHold 62 = .ok (.iconst 1, 1) := by decide +kernel
theorem dX0_canHold_63 : decode cX0_canHold 63 = .ok (.ireturn, 1) := by decide +kernel
theorem dX0_unitsAs_0 : decode cX0_unitsAs 0 = .ok (.iload_n 2, 1) := by decide +kernel
theorem dX0_unitsAs_1 : decode cX0_unitsAs 1 = .ok (.lookupswitch 45 #[(0, 27), (2, 36)], 27) := by decide +kernel
theorem dX0_unitsAs_28 : decode cX0_unitsAs 28 = .ok (.iconst 2, 1) := by decide +kernel
theorem dX0_unitsAs_29 : decode cX0_unitsAs 29 = .ok (.aload_n 0, 1) := by decide +kernel
theorem dX0_unitsAs_30 : decode cX0_unitsAs 30 = .ok (.getfield 19, 3) := by decide +kernel
theorem dX0_unitsAs_33 : decode cX0_unitsAs 33 = .ok (.iload_n 1, 1) := by decide +kernel
theorem dX0_unitsAs_34 : decode cX0_unitsAs 34 = .ok (.iaload, 1) := by decide +kernel
theorem dX0_unitsAs_35 : decode cX0_unitsAs 35 = .ok (.imul, 1) := by decide +kernel
theorem dX0_unitsAs_36 : decode cX0_unitsAs 36 = .ok (.ireturn, 1) := by decide +kernel
theorem dX0_unitsAs_37 : decode cX0_unitsAs 37 = .ok (.iconst 3, 1) := by decide +kernel
theorem dX0_unitsAs_38 : decode cX0_unitsAs 38 = .ok (.aload_n 0, 1) := by decide +kernel
theorem dX0_unitsAs_39 : decode cX0_unitsAs 39 = .ok (.getfield 22, 3) := by decide +kernel
theorem dX0_unitsAs_42 : decode cX0_unitsAs 42 = .ok (.iload_n 1, 1) := by decide +kernel
theorem dX0_unitsAs_43 : decode cX0_unitsAs 43 = .ok (.iaload, 1) := by decide +kernel
theorem dX0_unitsAs_44 : decode cX0_unitsAs 44 = .ok (.imul, 1) := by decide +kernel
theorem dX0_unitsAs_45 : decode cX0_unitsAs 45 = .ok (.ireturn, 1) := by decide +kernel
theorem dX0_unitsAs_46 : decode cX0_unitsAs 46 = .ok (.bipush 32, 2) := by decide +kernel
theorem dX0_unitsAs_48 : decode cX0_unitsAs 48 = .ok (.ireturn, 1) := by decide +kernel
set_option maxRecDepth 20000 in
theorem ggX0_bestKind_X0_canHold : GoodIn wsX0_bestKind wsX0_canHold := goodIn_r _ [5, 6, 7, 12, 13, 14, 15, 16, 17, 18] (by decide +kernel) (by decide +kernel)
set_option maxRecDepth 20000 in
theorem gX0_bestKind_X0_canHold : GoodIn wsX0_bestKind (wsV RX0 84 RX0 yX0_canHold wsX0_canHold) := goodIn_app (goodIn_of _ (by decide +kernel)) ggX0_bestKind_X0_canHold
set_option maxRecDepth 20000 in
theorem ggX0_bestKind_X0_unitsAs : GoodIn wsX0_bestKind wsX0_unitsAs := goodIn_r _ [11, 6, 7, 12, 13, 14, 15, 16, 17, 18] (by decide +kernel) (by decide +kernel)
set_option maxRecDepth 20000 in
theorem gX0_bestKind_X0_unitsAs : GoodIn wsX0_bestKind (wsV RX0 91 RX0 yX0_unitsAs wsX0_unitsAs) := goodIn_app (goodIn_of _ (by decide +kernel)) ggX0_bestKind_X0_unitsAs
theorem dX0_bestKind_0 : decode cX0_bestKind 0 = .ok (.iconst 1, 1) := by decide +kernel
theorem dX0_bestKind_1 : decode cX0_bestKind 1 = .ok (.istore_n 2, 1) := by decide +kernel
theorem dX0_bestKind_2 : decode cX0_bestKind 2 = .ok (.aload_n 0, 1) := by decide +kernel
theorem dX0_bestKind_3 : decode cX0_bestKind 3 = .ok (.iload_n 1, 1) := by decide +kernel
theorem dX0_bestKind_4 : decode cX0_bestKind 4 = .ok (.iconst 0, 1) := by decide +kernel
theorem dX0_bestKind_5 : decode cX0_bestKind 5 = .ok (.invokevirtual 84, 3) := by decide +kernel
theorem dX0_bestKind_8 : decode cX0_bestKind 8 = .ok (.ifCond .eq 20, 3) := by decide +kernel
theorem dX0_bestKind_11 : decode cX0_bestKind 11 = .ok (.aload_n 0, 1) := by decide +kernel
theorem dX0_bestKind_12 : decode cX0_bestKind 12 = .ok (.iload_n 1, 1) := by decide +kernel
theorem dX0_bestKind_13 : decode cX0_bestKind 13 = .ok (.iconst 0, 1) := by decide +kernel
theorem dX0_bestKind_14 : decode cX0_bestKind 14 = .ok (.invokevirtual 91, 3) := by decide +kernel
theorem dX0_bestKind_17 : decode cX0_bestKind 17 = .ok (.aload_n 0, 1) := by decide +kernel
theorem dX0_bestKind_18 : decode cX0_bestKind 18 = .ok (.iload_n 1, 1) := by decide +kernel
theorem dX0_bestKind_19 : decode cX0_bestKind 19 = .ok (.iconst 1, 1) := by decide +kernel
theorem dX0_bestKind_20 : decode cX0_bestKind 20 = .ok (.invokevirtual 91, 3) := by decide +kernel
theorem dX0_bestKind_23 : decode cX0_bestKind 23 = .ok (.if_icmp .gt 5, 3) := by decide +kernel
theorem dX0_bestKind_26 : decode cX0_bestKind 26 = .ok (.iconst 0, 1) := by decide +kernel
theorem dX0_bestKind_27 : decode cX0_bestKind 27 = .ok (.istore_n 2, 1) := by decide +kernel
theorem dX0_bestKind_28 : decode cX0_bestKind 28 = .ok (.aload_n 0, 1) := by decide +kernel
theorem dX0_bestKind_29 : decode cX0_bestKind 29 = .ok (.iload_n 1, 1) := by decide +kernel
theorem dX0_bestKind_30 : decode cX0_bestKind 30 = .ok (.iconst 2, 1) := by decide +kernel
theorem dX0_bestKind_31 : decode cX0_bestKind 31 = .ok (.invokevirtual 84, 3) := by decide +kernel
theorem dX0_bestKind_34 : decode cX0_bestKind 34 = .ok (.ifCond .eq 20, 3) := by decide +kernel
theorem dX0_bestKind_37 : decode cX0_bestKind 37 = .ok (.aload_n 0, 1) := by decide +kernel
theorem dX0_bestKind_38 : decode cX0_bestKind 38 = .ok (.iload_n 1, 1) := by decide +kernel
theorem dX0_bestKind_39 : decode cX0_bestKind 39 = .ok (.iconst 2, 1) := by decide +kernel
theorem dX0_bestKind_40 : decode cX0_bestKind 40 = .ok (.invokevirtual 91, 3) := by decide +kernel
theorem dX0_bestKind_43 : decode cX0_bestKind 43 = .ok (.aload_n 0, 1) := by decide +kernel
theorem dX0_bestKind_44 : decode cX0_bestKind 44 = .ok (.iload_n 1, 1) := by decide +kernel
theorem dX0_bestKind_45 : decode cX0_bestKind 45 = .ok (.iload_n 2, 1) := by decide +kernel
theorem dX0_bestKind_46 : decode cX0_bestKind 46 = .ok (.invokevirtual 91, 3) := by decide +kernel
theorem dX0_bestKind_49 : decode cX0_bestKind 49 = .ok (.if_icmp .ge 5, 3) := by decide +kernel
theorem dX0_bestKind_52 : decode cX0_bestKind 52 = .ok (.iconst 2, 1) := by decide +kernel
theorem dX0_bestKind_53 : decode cX0_bestKind 53 = .ok (.istore_n 2, 1) := by decide +kernel
theorem dX0_bestKind_54 : decode cX0_bestKind 54 = .ok (.iload_n 2, 1) := by decide +kernel
theorem dX0_bestKind_55 : decode cX0_bestKind 55 = .ok (.ireturn, 1) := by decide +kernel
set_option maxRecDepth 20000 in
theorem ggX0_tollToBest_X0_bestKind : GoodIn wsX0_tollToBest wsX0_bestKind := goodIn_r _ [6, 7, 8, 9, 5, 10, 11, 12, 13, 14, 15, 16, 17, 18, 19, 20, 21, 22, 23] (by decide +kernel) (by decide +kernel)
set_option maxRecDepth 20000 in
theorem gX0_tollToBest_X0_bestKind : GoodIn wsX0_tollToBest (wsV RX0 88 RX0 yX0_bestKind wsX0_bestKind) := goodIn_app (goodIn_of _ (by decide +kernel)) ggX0_tollToBest_X0_bestKind
set_option maxRecDepth 20000 in
theorem ggX0_tollToBest_X0_unitsAs : GoodIn wsX0_tollToBest wsX0_unitsAs := goodIn_r _ [16, 11, 12, 17, 18, 19, 20, 21, 22, 23] (by decide +kernel) (by decide +kernel)
set_option maxRecDepth 20000 in
theorem gX0_tollToBest_X0_unitsAs : GoodIn wsX0_tollToBest (wsV RX0 91 RX0 yX0_unitsAs wsX0_unitsAs) := goodIn_app (goodIn_of _ (by decide +kernel)) ggX0_tollToBest_X0_unitsAs
theorem dX0_tollToBest_0 : decode cX0_tollToBest 0 = .ok (.aload_n 0, 1) := by decide +kernel
theorem dX0_tollToBest_1 : decode cX0_tollToBest 1 = .ok (.iload_n 1, 1) := by decide +kernel
theorem dX0_tollToBest_2 : decode cX0_tollToBest 2 = .ok (.invokevirtual 88, 3) := by decide +kernel
theorem dX0_tollToBest_5 : decode cX0_tollToBest 5 = .ok (.istore_n 2, 1) := by decide +kernel
theorem dX0_tollToBest_6 : decode cX0_tollToBest 6 = .ok (.iload_n 2, 1) := by decide +kernel
theorem dX0_tollToBest_7 : decode cX0_tollToBest 7 = .ok (.aload_n 0, 1) := by decide +kernel
theorem dX0_tollToBest_8 : decode cX0_tollToBest 8 = .ok (.getfield 15, 3) := by decide +kernel
theorem dX0_tollToBest_11 : decode cX0_tollToBest 11 = .ok (.iload_n 1, 1) := by decide +kernel
theorem dX0_tollToBest_12 : decode cX0_tollToBest 12 = .ok (.iaload, 1) := by decide +kernel
theorem dX0_tollToBest_13 : decode cX0_tollToBest 13 = .ok (.if_icmp .ne 7, 3) := by decide +kernel
theorem dX0_tollToBest_16 : decode cX0_tollToBest 16 = .ok (.iconst 0, 1) := by decide +kernel
theorem dX0_tollToBest_17 : decode cX0_tollToBest 17 = .ok (.goto 9, 3) := by decide +kernel
theorem dX0_tollToBest_20 : decode cX0_tollToBest 20 = .ok (.aload_n 0, 1) := by decide +kernel
theorem dX0_tollToBest_21 : decode cX0_tollToBest 21 = .ok (.iload_n 1, 1) := by decide +kernel
theorem dX0_tollToBest_22 : decode cX0_tollToBest 22 = .ok (.iload_n 2, 1) := by decide +kernel
theorem dX0_tollToBest_23 : decode cX0_tollToBest 23 = .ok (.invokevirtual 91, 3) := by decide +kernel
theorem dX0_tollToBest_26 : decode cX0_tollToBest 26 = .ok (.ireturn, 1) := by decide +kernel
set_option maxRecDepth 20000 in
theorem ggX0_fillWith_X0_clearNumbers : GoodIn wsX0_fillWith wsX0_clearNumbers := goodIn_r _ [7, 1, 2, 8, 9, 10, 11, 12, 13, 14, 15, 16, 47, 48, 49, 50, 51, 52, 53] (by decide +kernel) (by decide +kernel)
set_option maxRecDepth 20000 in
theorem gX0_fillWith_X0_clearNumbers : GoodIn wsX0_fillWith (wsV RX0 25 RX0 yX0_clearNumbers wsX0_clearNumbers) := goodIn_app (goodIn_of _ (by decide +kernel)) ggX0_fillWith_X0_clearNumbers
set_option maxRecDepth 20000 in
theorem ggX0_fillWith_X4_join : GoodIn wsX0_fillWith wsX4_join := goodIn_r _ [19, 20] (by decide +kernel) (by decide +kernel)
set_option maxRecDepth 20000 in
theorem gX0_fillWith_X4_join_n97 : GoodIn wsX0_fillWith (wsX4_join) := ggX0_fillWith_X4_join
set_option maxRecDepth 20000 in
theorem ggX0_fillWith_X0_flip : GoodIn wsX0_fillWith wsX0_flip := goodIn_r _ [24, 1, 8, 9, 25, 18, 26, 27, 28, 29, 6, 30, 31, 32, 33, 34, 47, 48, 49, 50, 51, 52, 53] (by decide +kernel) (by decide +kernel)
set_option maxRecDepth 20000 in
theorem gX0_fillWith_X0_flip : GoodIn wsX0_fillWith (wsV RX0 74 RX0 yX0_flip wsX0_flip) := goodIn_app (goodIn_of _ (by decide +kernel)) ggX0_fillWith_X0_flip
set_option maxRecDepth 20000 in
theorem ggX0_fillWith_X0_bestKind : GoodIn wsX0_fillWith wsX0_bestKind := goodIn_r _ [38, 39, 40, 41, 6, 42, 8, 9, 43, 44, 45, 46, 47, 48, 49, 50, 51, 52, 53] (by decide +kernel) (by decide +kernel)
set_option maxRecDepth 20000 in
theorem gX0_fillWith_X0_bestKind : GoodIn wsX0_fillWith (wsV RX0 88 RX0 yX0_bestKind wsX0_bestKind) := goodIn_app (goodIn_of _ (by decide +kernel)) ggX0_fillWith_X0_bestKind
theorem dX0_fillWith_0 : decode cX0_fillWith 0 = .ok (.aload_n 0, 1) := by decide +kernel
theorem dX0_fillWith_1 : decode cX0_fillWith 1 = .ok (.invokevirtual 25, 3) := by decide +kernel
theorem dX0_fillWith_4 : decode cX0_fillWith 4 = .ok (.iconst 0, 1) := by decide +kernel
theorem dX0_fillWith_5 : decode cX0_fillWith 5 = .ok (.istore 4, 2) := by decide +kernel
theorem dX0_fillWith_7 : decode cX0_fillWith 7 = .ok (.iload 4, 2) := by decide +kernel
theorem dX0_fillWith_9 : decode cX0_fillWith 9 = .ok (.bipush 32, 2) := by decide +kernel
theorem dX0_fillWith_11 : decode cX0_fillWith 11 = .ok (.if_icmp .ge 69, 3) := by decide +kernel
theorem dX0_fillWith_14 : decode cX0_fillWith 14 = .ok (.iload_n 1, 1) := by decide +kernel
theorem dX0_fillWith_15 : decode cX0_fillWith 15 = .ok (.aload_n 2, 1) := by decide +kernel
theorem dX0_fillWith_16 : decode cX0_fillWith 16 = .ok (.getfield 9, 3) := by decide +kernel
theorem dX0_fillWith_19 : decode cX0_fillWith 19 = .ok (.iload 4, 2) := by decide +kernel
theorem dX0_fillWith_21 : decode cX0_fillWith 21 = .ok (.laload, 1) := by decide +kernel
theorem dX0_fillWith_22 : decode cX0_fillWith 22 = .ok (.aload_n 3, 1) := by decide +kernel
theorem dX0_fillWith_23 : decode cX0_fillWith 23 = .ok (.getfield 9, 3) := by decide +kernel
theorem dX0_fillWith_26 : decode cX0_fillWith 26 = .ok (.iload 4, 2) := by decide +kernel
theorem dX0_fillWith_28 : decode cX0_fillWith 28 = .ok (.laload, 1) := by decide +kernel
theorem dX0_fillWith_29 : decode cX0_fillWith 29 = .ok (.invokestatic 97, 3) := by decide +kernel
theorem dX0_fillWith_32 : decode cX0_fillWith 32 = .ok (.lstore 5, 2) := by decide +kernel
theorem dX0_fillWith_34 : decode cX0_fillWith 34 = .ok (.iconst 0, 1) := by decide +kernel
theorem dX0_fillWith_35 : decode cX0_fillWith 35 = .ok (.istore 7, 2) := by decide +kernel
theorem dX0_fillWith_37 : decode cX0_fillWith 37 = .ok (.iload 7, 2) := by decide +kernel
theorem dX0_fillWith_39 : decode cX0_fillWith 39 = .ok (.bipush 64, 2) := by decide +kernel
theorem dX0_fillWith_41 : decode cX0_fillWith 41 = .ok (.if_icmp .ge 33, 3) := by decide +kernel
theorem dX0_fillWith_44 : decode cX0_fillWith 44 = .ok (.lload 5, 2) := by decide +kernel
theorem dX0_fillWith_46 : decode cX0_fillWith 46 = .ok (.iload 7, 2) := by decide +kernel
theorem dX0_fillWith_48 : decode cX0_fillWith 48 = .ok (.lushr, 1) := by decide +kernel
theorem dX0_fillWith_49 : decode cX0_fillWith 49 = .ok (.lconst 1, 1) := by decide +kernel
theorem dX0_fillWith_50 : decode cX0_fillWith 50 = .ok (.land, 1) := by decide +kernel
theorem dX0_fillWith_51 : decode cX0_fillWith 51 = .ok (.lconst 0, 1) := by decide +kernel
theorem dX0_fillWith_52 : decode cX0_fillWith 52 = .ok (.lcmp, 1) := by decide +kernel
theorem dX0_fillWith_53 : decode cX0_fillWith 53 = .ok (.ifCond .eq 15, 3) := by decide +kernel
theorem dX0_fillWith_56 : decode cX0_fillWith 56 = .ok (.aload_n 0, 1) := by decide +kernel
theorem dX0_fillWith_57 : decode cX0_fillWith 57 = .ok (.iload 4, 2) := by decide +kernel
theorem dX0_fillWith_59 : decode cX0_fillWith 59 = .ok (.bipush 64, 2) := by decide +kernel
theorem dX0_fillWith_61 : decode cX0_fillWith 61 = .ok (.imul, 1) := by decide +kernel
theorem dX0_fillWith_62 : decode cX0_fillWith 62 = .ok (.iload 7, 2) := by decide +kernel
theorem dX0_fillWith_64 : decode cX0_fillWith 64 = .ok (.iadd, 1) := by decide +kernel
theorem dX0_fillWith_65 : decode cX0_fillWith 65 = .ok (.invokevirtual 74, 3) := by decide +kernel
theorem dX0_fillWith_68 : decode cX0_fillWith 68 = .ok (.iinc 7 1, 3) := by decide +kernel
theorem dX0_fillWith_71 : decode cX0_fillWith 71 = .ok (.goto (-34), 3) := by decide +kernel
theorem dX0_fillWith_74 : decode cX0_fillWith 74 = .ok (.iinc 4 1, 3) := by decide +kernel
theorem dX0_fillWith_77 : decode cX0_fillWith 77 = .ok (.goto (-70), 3) := by decide +kernel
theorem dX0_fillWith_80 : decode cX0_fillWith 80 = .ok (.iconst 0, 1) := by decide +kernel
theorem dX0_fillWith_81 : decode cX0_fillWith 81 = .ok (.istore 4, 2) := by decide +kernel
theorem dX0_fillWith_83 : decode cX0_fillWith 83 = .ok (.iload 4, 2) := by decide +kernel
theorem dX0_fillWith_85 : decode cX0_fillWith 85 = .ok (.bipush 8, 2) := by decide +kernel
theorem dX0_fillWith_87 : decode cX0_fillWith 87 = .ok (.if_icmp .ge 22, 3) := by decide +kernel
theorem dX0_fillWith_90 : decode cX0_fillWith 90 = .ok (.aload_n 0, 1) := by decide +kernel
theorem dX0_fillWith_91 : decode cX0_fillWith 91 = .ok (.getfield 15, 3) := by decide +kernel
theorem dX0_fillWith_94 : decode cX0_fillWith 94 = .ok (.iload 4, 2) := by decide +kernel
theorem dX0_fillWith_96 : decode cX0_fillWith 96 = .ok (.aload_n 0, 1) := by decide +kernel
theorem dX0_fillWith_97 : decode cX0_fillWith 97 = .ok (.iload 4, 2) := by decide +kernel
theorem dX0_fillWith_99 : decode cX0_fillWith 99 = .ok (.invokevirtual 88, 3) := by decide +kernel
theorem dX0_fillWith_102 : decode cX0_fillWith 102 = .ok (.iastore, 1) := by decide +kernel
theorem dX0_fillWith_103 : decode cX0_fillWith 103 = .ok (.iinc 4 1, 3) := by decide +kernel
theorem dX0_fillWith_106 : decode cX0_fillWith 106 = .ok (.goto (-23), 3) := by decide +kernel
theorem dX0_fillWith_109 : decode cX0_fillWith 109 = .ok (.return_, 1) := by decide +kernel
theorem dX0_numbers_0 : decode cX0_numbers 0 = .ok (.iconst 0, 1) := by decide +kernel
theorem dX0_numbers_1 : decode cX0_numbers 1 = .ok (.istore_n 1, 1) := by decide +kernel
theorem dX0_numbers_2 : decode cX0_numbers 2 = .ok (.iconst 0, 1) := by decide +kernel
theorem dX0_numbers_3 : decode cX0_numbers 3 = .ok (.istore_n 2, 1) := by decide +kernel
theorem dX0_numbers_4 : decode cX0_numbers 4 = .ok (.iload_n 2, 1) := by decide +kernel
theorem dX0_numbers_5 : decode cX0_numbers 5 = .ok (.bipush 8, 2) := by decide +kernel
theorem dX0_numbers_7 : decode cX0_numbers 7 = .ok (.if_icmp .ge 18, 3) := by decide +kernel
theorem dX0_numbers_10 : decode cX0_numbers 10 = .ok (.iload_n 1, 1) := by decide +kernel
theorem dX0_numbers_11 : decode cX0_numbers 11 = .ok (.aload_n 0, 1) := by decide +kernel
theorem dX0_numbers_12 : decode cX0_numbers 12 = .ok (.getfield 19, 3) := by decide +kernel
theorem dX0_numbers_15 : decode cX0_numbers 15 = .ok (.iload_n 2, 1) := by decide +kernel
theorem dX0_numbers_16 : decode cX0_numbers 16 = .ok (.iaload, 1) := by decide +kernel
theorem dX0_numbers_17 : decode cX0_numbers 17 = .ok (.iadd, 1) := by decide +kernel
theorem dX0_numbers_18 : decode cX0_numbers 18 = .ok (.istore_n 1, 1) := by decide +kernel
theorem dX0_numbers_19 : decode cX0_numbers 19 = .ok (.iinc 2 1, 3) := by decide +kernel
theorem dX0_numbers_22 : decode cX0_numbers 22 = .ok (.goto (-18), 3) := by decide +kernel
theorem dX0_numbers_25 : decode cX0_numbers 25 = .ok (.iload_n 1, 1) := by decide +kernel
theorem dX0_numbers_26 : decode cX0_numbers 26 = .ok (.ireturn, 1) := by decide +kernel
set_option maxRecDepth 20000 in
theorem ggX0_boats_X0_boatsOfKind : GoodIn wsX0_boats wsX0_boatsOfKind := goodIn_r _ [5, 6, 7, 8, 9, 10, 11, 12, 13, 14] (by decide +kernel) (by decide +kernel)
set_option maxRecDepth 20000 in
theorem gX0_boats_X0_boatsOfKind : GoodIn wsX0_boats (wsV RX0 101 RX0 yX0_boatsOfKind wsX0_boatsOfKind) := goodIn_app (goodIn_of _ (by decide +kernel)) ggX0_boats_X0_boatsOfKind
theorem dX0_boats_0 : decode cX0_boats 0 = .ok (.aload_n 0, 1) := by decide +kernel
theorem dX0_boats_1 : decode cX0_boats 1 = .ok (.iconst 0, 1) := by decide +kernel
theorem dX0_boats_2 : decode cX0_boats 2 = .ok (.invokevirtual 101, 3) := by decide +kernel
theorem dX0_boats_5 : decode cX0_boats 5 = .ok (.aload_n 0, 1) := by decide +kernel
theorem dX0_boats_6 : decode cX0_boats 6 = .ok (.iconst 1, 1) := by decide +kernel
theorem dX0_boats_7 : decode cX0_boats 7 = .ok (.invokevirtual 101, 3) := by decide +kernel
theorem dX0_boats_10 : decode cX0_boats 10 = .ok (.iadd, 1) := by decide +kernel
theorem dX0_boats_11 : decode cX0_boats 11 = .ok (.aload_n 0, 1) := by decide +kernel
theorem dX0_boats_12 : decode cX0_boats 12 = .ok (.iconst 2, 1) := by decide +kernel
theorem dX0_boats_13 : decode cX0_boats 13 = .ok (.invokevirtual 101, 3) := by decide +kernel
theorem dX0_boats_16 : decode cX0_boats 16 = .ok (.iadd, 1) := by decide +kernel
theorem dX0_boats_17 : decode cX0_boats 17 = .ok (.ireturn, 1) := by decide +kernel
theorem dX0_boatsOfKind_0 : decode cX0_boatsOfKind 0 = .ok (.iconst 0, 1) := by decide +kernel
theorem dX0_boatsOfKind_1 : decode cX0_boatsOfKind 1 = .ok (.istore_n 2, 1) := by decide +kernel
theorem dX0_boatsOfKind_2 : decode cX0_boatsOfKind 2 = .ok (.iconst 0, 1) := by decide +kernel
theorem dX0_boatsOfKind_3 : decode cX0_boatsOfKind 3 = .ok (.istore_n 3, 1) := by decide +kernel
theorem dX0_boatsOfKind_4 : decode cX0_boatsOfKind 4 = .ok (.iload_n 3, 1) := by decide +kernel
theorem dX0_boatsOfKind_5 : decode cX0_boatsOfKind 5 = .ok (.bipush 8, 2) := by decide +kernel
theorem dX0_boatsOfKind_7 : decode cX0_boatsOfKind 7 = .ok (.if_icmp .ge 31, 3) := by decide +kernel
theorem dX0_boatsOfKind_10 : decode cX0_boatsOfKind 10 = .ok (.aload_n 0, 1) := by decide +kernel
theorem dX0_boatsOfKind_11 : decode cX0_boatsOfKind 11 = .ok (.getfield 19, 3) := by decide +kernel
theorem dX0_boatsOfKind_14 : decode cX0_boatsOfKind 14 = .ok (.iload_n 3, 1) := by decide +kernel
theorem dX0_boatsOfKind_15 : decode cX0_boatsOfKind 15 = .ok (.iaload, 1) := by decide +kernel
theorem dX0_boatsOfKind_16 : decode cX0_boatsOfKind 16 = .ok (.ifCond .le 16, 3) := by decide +kernel
theorem dX0_boatsOfKind_19 : decode cX0_boatsOfKind 19 = .ok (.aload_n 0, 1) := by decide +kernel
theorem dX0_boatsOfKind_20 : decode cX0_boatsOfKind 20 = .ok (.getfield 15, 3) := by decide +kernel
theorem dX0_boatsOfKind_23 : decode cX0_boatsOfKind 23 = .ok (.iload_n 3, 1) := by decide +kernel
theorem dX0_boatsOfKind_24 : decode cX0_boatsOfKind 24 = .ok (.iaload, 1) := by decide +kernel
theorem dX0_boatsOfKind_25 : decode cX0_boatsOfKind 25 = .ok (.iload_n 1, 1) := by decide +kernel
theorem dX0_boatsOfKind_26 : decode cX0_boatsOfKind 26 = .ok (.if_icmp .ne 6, 3) := by decide +kernel
theorem dX0_boatsOfKind_29 : decode cX0_boatsOfKind 29 = .ok (.iinc 2 1, 3) := by decide +kernel
theorem dX0_boatsOfKind_32 : decode cX0_boatsOfKind 32 = .ok (.iinc 3 1, 3) := by decide +kernel
theorem dX0_boatsOfKind_35 : decode cX0_boatsOfKind 35 = .ok (.goto (-31), 3) := by decide +kernel
theorem dX0_boatsOfKind_38 : decode cX0_boatsOfKind 38 = .ok (.iload_n 2, 1) := by decide +kernel
theorem dX0_boatsOfKind_39 : decode cX0_boatsOfKind 39 = .ok (.ireturn, 1) := by decide +kernel
set_option maxRecDepth 20000 in
theorem ggX0_units_X0_unitsAs : GoodIn wsX0_units wsX0_unitsAs := goodIn_r _ [6, 7, 8, 9, 10, 11, 12, 13, 14, 15] (by decide +kernel) (by decide +kernel)
set_option maxRecDepth 20000 in
theorem gX0_units_X0_unitsAs : GoodIn wsX0_units (wsV RX0 91 RX0 yX0_unitsAs wsX0_unitsAs) := goodIn_app (goodIn_of _ (by decide +kernel)) ggX0_units_X0_unitsAs
theorem dX0_units_0 : decode cX0_units 0 = .ok (.iconst 0, 1) := by decide +kernel
theorem dX0_units_1 : decode cX0_units 1 = .ok (.istore_n 1, 1) := by decide +kernel
theorem dX0_units_2 : decode cX0_units 2 = .ok (.iconst 0, 1) := by decide +kernel
theorem dX0_units_3 : decode cX0_units 3 = .ok (.istore_n 2, 1) := by decide +kernel
theorem dX0_units_4 : decode cX0_units 4 = .ok (.iload_n 2, 1) := by decide +kernel
theorem dX0_units_5 : decode cX0_units 5 = .ok (.bipush 8, 2) := by decide +kernel
theorem dX0_units_7 : decode cX0_units 7 = .ok (.if_icmp .ge 23, 3) := by decide +kernel
theorem dX0_units_10 : decode cX0_units 10 = .ok (.iload_n 1, 1) := by decide +kernel
theorem dX0_units_11 : decode cX0_units 11 = .ok (.aload_n 0, 1) := by decide +kernel
theorem dX0_units_12 : decode cX0_units 12 = .ok (.iload_n 2, 1) := by decide +kernel
theorem dX0_units_13 : decode cX0_units 13 = .ok (.aload_n 0, 1) := by decide +kernel
theorem dX0_units_14 : decode cX0_units 14 = .ok (.getfield 15, 3) := by decide +kernel
theorem dX0_units_17 : decode cX0_units 17 = .ok (.iload_n 2, 1) := by decide +kernel
theorem dX0_units_18 : decode cX0_units 18 = .ok (.iaload, 1) := by decide +kernel
theorem dX0_units_19 : decode cX0_units 19 = .ok (.invokevirtual 91, 3) := by decide +kernel
theorem dX0_units_22 : decode cX0_units 22 = .ok (.iadd, 1) := by decide +kernel
theorem dX0_units_23 : decode cX0_units 23 = .ok (.istore_n 1, 1) := by decide +kernel
theorem dX0_units_24 : decode cX0_units 24 = .ok (.iinc 2 1, 3) := by decide +kernel
theorem dX0_units_27 : decode cX0_units 27 = .ok (.goto (-23), 3) := by decide +kernel
theorem dX0_units_30 : decode cX0_units 30 = .ok (.iload_n 1, 1) := by decide +kernel
theorem dX0_units_31 : decode cX0_units 31 = .ok (.ireturn, 1) := by decide +kernel
set_option maxRecDepth 20000 in
theorem ggX0_bestUnits_X0_bestKind : GoodIn wsX0_bestUnits wsX0_bestKind := goodIn_r _ [5, 6, 7, 8, 4, 9, 10, 11, 12, 13, 14, 15, 16, 17, 18, 19, 20, 21, 22] (by decide +kernel) (by decide +kernel)
set_option maxRecDepth 20000 in
theorem gX0_bestUnits_X0_bestKind : GoodIn wsX0_bestUnits (wsV RX0 88 RX0 yX0_bestKind wsX0_bestKind) := goodIn_app (goodIn_of _ (by decide +kernel)) ggX0_bestUnits_X0_bestKind
set_option maxRecDepth 20000 in
theorem ggX0_bestUnits_X0_unitsAs : GoodIn wsX0_bestUnits wsX0_unitsAs := goodIn_r _ [15, 10, 11, 16, 17, 18, 19, 20, 21, 22] (by decide +kernel) (by decide +kernel)
set_option maxRecDepth 20000 in
theorem gX0_bestUnits_X0_unitsAs : GoodIn wsX0_bestUnits (wsV RX0 91 RX0 yX0_unitsAs wsX0_unitsAs) := goodIn_app (goodIn_of _ (by decide +kernel)) ggX0_bestUnits_X0_unitsAs
theorem dX0_bestUnits_0 : decode cX0_bestUnits 0 = .ok (.iconst 0, 1) := by decide +kernel
theorem dX0_bestUnits_1 : decode cX0_bestUnits 1 = .ok (.istore_n 1, 1) := by decide +kernel
theorem dX0_bestUnits_2 : decode cX0_bestUnits 2 = .ok (.iconst 0, 1) := by decide +kernel
theorem dX0_bestUnits_3 : decode cX0_bestUnits 3 = .ok (.istore_n 2, 1) := by decide +kernel
theorem dX0_bestUnits_4 : decode cX0_bestUnits 4 = .ok (.iload_n 2, 1) := by decide +kernel
theorem dX0_bestUnits_5 : decode cX0_bestUnits 5 = .ok (.bipush 8, 2) := by decide +kernel
theorem dX0_bestUnits_7 : decode cX0_bestUnits 7 = .ok (.if_icmp .ge 22, 3) := by decide +kernel
theorem dX0_bestUnits_10 : decode cX0_bestUnits 10 = .ok (.iload_n 1, 1) := by decide +kernel
theorem dX0_bestUnits_11 : decode cX0_bestUnits 11 = .ok (.aload_n 0, 1) := by decide +kernel
theorem dX0_bestUnits_12 : decode cX0_bestUnits 12 = .ok (.iload_n 2, 1) := by decide +kernel
theorem dX0_bestUnits_13 : decode cX0_bestUnits 13 = .ok (.aload_n 0, 1) := by decide +kernel
theorem dX0_bestUnits_14 : decode cX0_bestUnits 14 = .ok (.iload_n 2, 1) := by decide +kernel
theorem dX0_bestUnits_15 : decode cX0_bestUnits 15 = .ok (.invokevirtual 88, 3) := by decide +kernel
theorem dX0_bestUnits_18 : decode cX0_bestUnits 18 = .ok (.invokevirtual 91, 3) := by decide +kernel
theorem dX0_bestUnits_21 : decode cX0_bestUnits 21 = .ok (.iadd, 1) := by decide +kernel
theorem dX0_bestUnits_22 : decode cX0_bestUnits 22 = .ok (.istore_n 1, 1) := by decide +kernel
theorem dX0_bestUnits_23 : decode cX0_bestUnits 23 = .ok (.iinc 2 1, 3) := by decide +kernel
theorem dX0_bestUnits_26 : decode cX0_bestUnits 26 = .ok (.goto (-22), 3) := by decide +kernel
theorem dX0_bestUnits_29 : decode cX0_bestUnits 29 = .ok (.iload_n 1, 1) := by decide +kernel
theorem dX0_bestUnits_30 : decode cX0_bestUnits 30 = .ok (.ireturn, 1) := by decide +kernel
theorem dX0_allRuns_0 : decode cX0_allRuns 0 = .ok (.iconst 0, 1) := by decide +kernel
theorem dX0_allRuns_1 : decode cX0_allRuns 1 = .ok (.istore_n 1, 1) := by decide +kernel
theorem dX0_allRuns_2 : decode cX0_allRuns 2 = .ok (.iconst 0, 1) := by decide +kernel
theorem dX0_allRuns_3 : decode cX0_allRuns 3 = .ok (.istore_n 2, 1) := by decide +kernel
theorem dX0_allRuns_4 : decode cX0_allRuns 4 = .ok (.iload_n 2, 1) := by decide +kernel
theorem dX0_allRuns_5 : decode cX0_allRuns 5 = .ok (.bipush 8, 2) := by decide +kernel
theorem dX0_allRuns_7 : decode cX0_allRuns 7 = .ok (.if_icmp .ge 18, 3) := by decide +kernel
theorem dX0_allRuns_10 : decode cX0_allRuns 10 = .ok (.iload_n 1, 1) := by decide +kernel
theorem dX0_allRuns_11 : decode cX0_allRuns 11 = .ok (.aload_n 0, 1) := by decide +kernel
theorem dX0_allRuns_12 : decode cX0_allRuns 12 = .ok (.getfield 22, 3) := by decide +kernel
theorem dX0_allRuns_15 : decode cX0_allRuns 15 = .ok (.iload_n 2, 1) := by decide +kernel
theorem dX0_allRuns_16 : decode cX0_allRuns 16 = .ok (.iaload, 1) := by decide +kernel
theorem dX0_allRuns_17 : decode cX0_allRuns 17 = .ok (.iadd, 1) := by decide +kernel
theorem dX0_allRuns_18 : decode cX0_allRuns 18 = .ok (.istore_n 1, 1) := by decide +kernel
theorem dX0_allRuns_19 : decode cX0_allRuns 19 = .ok (.iinc 2 1, 3) := by decide +kernel
theorem dX0_allRuns_22 : decode cX0_allRuns 22 = .ok (.goto (-18), 3) := by decide +kernel
theorem dX0_allRuns_25 : decode cX0_allRuns 25 = .ok (.iload_n 1, 1) := by decide +kernel
theorem dX0_allRuns_26 : decode cX0_allRuns 26 = .ok (.ireturn, 1) := by decide +kernel
set_option maxRecDepth 20000 in
theorem ggX0_numbersBelow_X4_isNumber : GoodIn wsX0_numbersBelow wsX4_isNumber := goodIn_r _ [4] (by decide +kernel) (by decide +kernel)
set_option maxRecDepth 20000 in
theorem gX0_numbersBelow_X4_isNumber_n54 : GoodIn wsX0_numbersBelow (wsX4_isNumber) := ggX0_numbersBelow_X4_isNumber
set_option maxRecDepth 20000 in
theorem ggX0_numbersBelow_J13_bitCount_95d88 : GoodIn wsX0_numbersBelow wsJ13_bitCount_95d88 := goodIn_r _ [8, 9, 10, 11] (by decide +kernel) (by decide +kernel)
set_option maxRecDepth 20000 in
theorem gX0_numbersBelow_J13_bitCount_95d88 : GoodIn wsX0_numbersBelow (va_wsS RX0 104 yJ13_bitCount_95d88 wsJ13_bitCount_95d88) := goodIn_app (goodIn_of _ (by decide +kernel)) ggX0_numbersBelow_J13_bitCount_95d88
theorem dX0_numbersBelow_0 : decode cX0_numbersBelow 0 = .ok (.iload_n 1, 1) := by decide +kernel
theorem dX0_numbersBelow_1 : decode cX0_numbersBelow 1 = .ok (.invokestatic 54, 3) := by decide +kernel
theorem dX0_numbersBelow_4 : decode cX0_numbersBelow 4 = .ok (.ifCond .ne 5, 3) := by decide +kernel
theorem dX0_numbersBelow_7 : decode cX0_numbersBelow 7 = .ok (.iconst 0, 1) := by decide +kernel
theorem dX0_numbersBelow_8 : decode cX0_numbersBelow 8 = .ok (.ireturn, 1) := by decide +kernel
theorem dX0_numbersBelow_9 : decode cX0_numbersBelow 9 = .ok (.iload_n 1, 1) := by decide +kernel
theorem dX0_numbersBelow_10 : decode cX0_numbersBelow 10 = .ok (.bipush 64, 2) := by decide +kernel
theorem dX0_numbersBelow_12 : decode cX0_numbersBelow 12 = .ok (.idiv, 1) := by decide +kernel
theorem dX0_numbersBelow_13 : decode cX0_numbersBelow 13 = .ok (.istore_n 2, 1) := by decide +kernel
theorem dX0_numbersBelow_14 : decode cX0_numbersBelow 14 = .ok (.iconst 0, 1) := by decide +kernel
theorem dX0_numbersBelow_15 : decode cX0_numbersBelow 15 = .ok (.istore_n 3, 1) := by decide +kernel
theorem dX0_numbersBelow_16 : decode cX0_numbersBelow 16 = .ok (.iconst 0, 1) := by decide +kernel
theorem dX0_numbersBelow_17 : decode cX0_numbersBelow 17 = .ok (.istore 4, 2) := by decide +kernel
theorem dX0_numbersBelow_19 : decode cX0_numbersBelow 19 = .ok (.iload 4, 2) := by decide +kernel
theorem dX0_numbersBelow_21 : decode cX0_numbersBelow 21 = .ok (.iload_n 2, 1) := by decide +kernel
theorem dX0_numbersBelow_22 : decode cX0_numbersBelow 22 = .ok (.if_icmp .ge 22, 3) := by decide +kernel
theorem dX0_numbersBelow_25 : decode cX0_numbersBelow 25 = .ok (.iload_n 3, 1) := by decide +kernel
theorem dX0_numbersBelow_26 : decode cX0_numbersBelow 26 = .ok (.aload_n 0, 1) := by decide +kernel
theorem dX0_numbersBelow_27 : decode cX0_numbersBelow 27 = .ok (.getfield 9, 3) := by decide +kernel
theorem dX0_numbersBelow_30 : decode cX0_numbersBelow 30 = .ok (.iload 4, 2) := by decide +kernel
theorem dX0_numbersBelow_32 : decode cX0_numbersBelow 32 = .ok (.laload, 1) := by decide +kernel
theorem dX0_numbersBelow_33 : decode cX0_numbersBelow 33 = .ok (.invokestatic 104, 3) := by decide +kernel
theorem dX0_numbersBelow_36 : decode cX0_numbersBelow 36 = .ok (.iadd, 1) := by decide +kernel
theorem dX0_numbersBelow_37 : decode cX0_numbersBelow 37 = .ok (.istore_n 3, 1) := by decide +kernel
theorem dX0_numbersBelow_38 : decode cX0_numbersBelow 38 = .ok (.iinc 4 1, 3) := by decide +kernel
theorem dX0_numbersBelow_41 : decode cX0_numbersBelow 41 = .ok (.goto (-22), 3) := by decide +kernel
theorem dX0_numbersBelow_44 : decode cX0_numbersBelow 44 = .ok (.lconst 1, 1) := by decide +kernel
theorem dX0_numbersBelow_45 : decode cX0_numbersBelow 45 = .ok (.iload_n 1, 1) := by decide +kernel
theorem dX0_numbersBelow_46 : decode cX0_numbersBelow 46 = .ok (.bipush 64, 2) := by decide +kernel
theorem dX0_numbersBelow_48 : decode cX0_numbersBelow 48 = .ok (.irem, 1) := by decide +kernel
theorem dX0_numbersBelow_49 : decode cX0_numbersBelow 49 = .ok (.lshl, 1) := by decide +kernel
theorem dX0_numbersBelow_50 : decode cX0_numbersBelow 50 = .ok (.lconst 1, 1) := by decide +kernel
theorem dX0_numbersBelow_51 : decode cX0_numbersBelow 51 = .ok (.lsub, 1) := by decide +kernel
theorem dX0_numbersBelow_52 : decode cX0_numbersBelow 52 = .ok (.lstore 4, 2) := by decide +kernel
theorem dX0_numbersBelow_54 : decode cX0_numbersBelow 54 = .ok (.iload_n 3, 1) := by decide +kernel
theorem dX0_numbersBelow_55 : decode cX0_numbersBelow 55 = .ok (.aload_n 0, 1) := by decide +kernel
theorem dX0_numbersBelow_56 : decode cX0_numbersBelow 56 = .ok (.getfield 9, 3) := by decide +kernel
theorem dX0_numbersBelow_59 : decode cX0_numbersBelow 59 = .ok (.iload_n 2, 1) := by decide +kernel
theorem dX0_numbersBelow_60 : decode cX0_numbersBelow 60 = .ok (.laload, 1) := by decide +kernel
theorem dX0_numbersBelow_61 : decode cX0_numbersBelow 61 = .ok (.lload 4, 2) := by decide +kernel
theorem dX0_numbersBelow_63 : decode cX0_numbersBelow 63 = .ok (.land, 1) := by decide +kernel
theorem dX0_numbersBelow_64 : decode cX0_numbersBelow 64 = .ok (.invokestatic 104, 3) := by decide +kernel
theorem dX0_numbersBelow_67 : decode cX0_numbersBelow 67 = .ok (.iadd, 1) := by decide +kernel
theorem dX0_numbersBelow_68 : decode cX0_numbersBelow 68 = .ok (.ireturn, 1) := by decide +kernel
set_option maxRecDepth 20000 in
theorem ggX0_numberAt_J13_bitCount_95d88 : GoodIn wsX0_numberAt wsJ13_bitCount_95d88 := goodIn_r _ [5, 6, 7, 8] (by decide +kernel) (by decide +kernel)
set_option maxRecDepth 20000 in
theorem gX0_numberAt_J13_bitCount_95d88 : GoodIn wsX0_numberAt (va_wsS RX0 104 yJ13_bitCount_95d88 wsJ13_bitCount_95d88) := goodIn_app (goodIn_of _ (by decide +kernel)) ggX0_numberAt_J13_bitCount_95d88
set_option maxRecDepth 20000 in
theorem ggX0_numberAt_X0_placeOfBit : GoodIn wsX0_numberAt wsX0_placeOfBit := goodIn_r _ [12, 2, 3, 4, 5, 6, 7, 8] (by decide +kernel) (by decide +kernel)
set_option maxRecDepth 20000 in
theorem gX0_numberAt_X0_placeOfBit : GoodIn wsX0_numberAt (va_wsS RX0 110 yX0_placeOfBit wsX0_placeOfBit) := goodIn_app (goodIn_of _ (by decide +kernel)) ggX0_numberAt_X0_placeOfBit
theorem dX0_numberAt_0 : decode cX0_numberAt 0 = .ok (.iload_n 1, 1) := by decide +kernel
theorem dX0_numberAt_1 : decode cX0_numberAt 1 = .ok (.ifCond .ge 6, 3) := by decide +kernel
theorem dX0_numberAt_4 : decode cX0_numberAt 4 = .ok (.bipush (-5), 2) := by decide +kernel
theorem dX0_numberAt_6 : decode cX0_numberAt 6 = .ok (.ireturn, 1) := by decide +kernel
theorem dX0_numberAt_7 : decode cX0_numberAt 7 = .ok (.iload_n 1, 1) := by decide +kernel
theorem dX0_numberAt_8 : decode cX0_numberAt 8 = .ok (.istore_n 2, 1) := by decide +kernel
theorem dX0_numberAt_9 : decode cX0_numberAt 9 = .ok (.iconst 0, 1) := by decide +kernel
theorem dX0_numberAt_10 : decode cX0_numberAt 10 = .ok (.istore_n 3, 1) := by decide +kernel
theorem dX0_numberAt_11 : decode cX0_numberAt 11 = .ok (.iload_n 3, 1) := by decide +kernel
theorem dX0_numberAt_12 : decode cX0_numberAt 12 = .ok (.bipush 32, 2) := by decide +kernel
theorem dX0_numberAt_14 : decode cX0_numberAt 14 = .ok (.if_icmp .ge 47, 3) := by decide +kernel
theorem dX0_numberAt_17 : decode cX0_numberAt 17 = .ok (.aload_n 0, 1) := by decide +kernel
theorem dX0_numberAt_18 : decode cX0_numberAt 18 = .ok (.getfield 9, 3) := by decide +kernel
theorem dX0_numberAt_21 : decode cX0_numberAt 21 = .ok (.iload_n 3, 1) := by decide +kernel
theorem dX0_numberAt_22 : decode cX0_numberAt 22 = .ok (.laload, 1) := by decide +kernel
theorem dX0_numberAt_23 : decode cX0_numberAt 23 = .ok (.invokestatic 104, 3) := by decide +kernel
theorem dX0_numberAt_26 : decode cX0_numberAt 26 = .ok (.istore 4, 2) := by decide +kernel
theorem dX0_numberAt_28 : decode cX0_numberAt 28 = .ok (.iload_n 2, 1) := by decide +kernel
theorem dX0_numberAt_29 : decode cX0_numberAt 29 = .ok (.iload 4, 2) := by decide +kernel
theorem dX0_numberAt_31 : decode cX0_numberAt 31 = .ok (.if_icmp .ge 19, 3) := by decide +kernel
theorem dX0_numberAt_34 : decode cX0_numberAt 34 = .ok (.iload_n 3, 1) := by decide +kernel
theorem dX0_numberAt_35 : decode cX0_numberAt 35 = .ok (.bipush 64, 2) := by decide +kernel
theorem dX0_numberAt_37 : decode cX0_numberAt 37 = .ok (.imul, 1) := by decide +kernel
theorem dX0_numberAt_38 : decode cX0_numberAt 38 = .ok (.aload_n 0, 1) := by decide +kernel
theorem dX0_numberAt_39 : decode cX0_numberAt 39 = .ok (.getfield 9, 3) := by decide +kernel
theorem dX0_numberAt_42 : decode cX0_numberAt 42 = .ok (.iload_n 3, 1) := by decide +kernel
theorem dX0_numberAt_43 : decode cX0_numberAt 43 = .ok (.laload, 1) := by decide +kernel
theorem dX0_numberAt_44 : decode cX0_numberAt 44 = .ok (.iload_n 2, 1) := by decide +kernel
theorem dX0_numberAt_45 : decode cX0_numberAt 45 = .ok (.invokestatic 110, 3) := by decide +kernel
theorem dX0_numberAt_48 : decode cX0_numberAt 48 = .ok (.iadd, 1) := by decide +kernel
theorem dX0_numberAt_49 : decode cX0_numberAt 49 = .ok (.ireturn, 1) := by decide +kernel
theorem dX0_numberAt_50 : decode cX0_numberAt 50 = .ok (.iload_n 2, 1) := by decide +kernel
theorem dX0_numberAt_51 : decode cX0_numberAt 51 = .ok (.iload 4, 2) := by decide +kernel
theorem dX0_numberAt_53 : decode cX0_numberAt 53 = .ok (.isub, 1) := by decide +kernel
theorem dX0_numberAt_54 : decode cX0_numberAt 54 = .ok (.istore_n 2, 1) := by decide +kernel
theorem dX0_numberAt_55 : decode cX0_numberAt 55 = .ok (.iinc 3 1, 3) := by decide +kernel
theorem dX0_numberAt_58 : decode cX0_numberAt 58 = .ok (.goto (-47), 3) := by decide +kernel
theorem dX0_numberAt_61 : decode cX0_numberAt 61 = .ok (.bipush (-5), 2) := by decide +kernel
theorem dX0_numberAt_63 : decode cX0_numberAt 63 = .ok (.ireturn, 1) := by decide +kernel
set_option maxRecDepth 20000 in
theorem ggX0_placeOfBit_J13_bitCount_95d88 : GoodIn wsX0_placeOfBit wsJ13_bitCount_95d88 := goodIn_r _ [4, 5, 6, 7] (by decide +kernel) (by decide +kernel)
set_option maxRecDepth 20000 in
theorem gX0_placeOfBit_J13_bitCount_95d88 : GoodIn wsX0_placeOfBit (va_wsS RX0 104 yJ13_bitCount_95d88 wsJ13_bitCount_95d88) := goodIn_app (goodIn_of _ (by decide +kernel)) ggX0_placeOfBit_J13_bitCount_95d88
theorem dX0_placeOfBit_0 : decode cX0_placeOfBit 0 = .ok (.lload_n 0, 1) := by decide +kernel
theorem dX0_placeOfBit_1 : decode cX0_placeOfBit 1 = .ok (.lstore_n 3, 1) := by decide +kernel
theorem dX0_placeOfBit_2 : decode cX0_placeOfBit 2 = .ok (.iconst 0, 1) := by decide +kernel
theorem dX0_placeOfBit_3 : decode cX0_placeOfBit 3 = .ok (.istore 5, 2) := by decide +kernel
theorem dX0_placeOfBit_5 : decode cX0_placeOfBit 5 = .ok (.iload 5, 2) := by decide +kernel
theorem dX0_placeOfBit_7 : decode cX0_placeOfBit 7 = .ok (.iload_n 2, 1) := by decide +kernel
theorem dX0_placeOfBit_8 : decode cX0_placeOfBit 8 = .ok (.if_icmp .ge 15, 3) := by decide +kernel
theorem dX0_placeOfBit_11 : decode cX0_placeOfBit 11 = .ok (.lload_n 3, 1) := by decide +kernel
theorem dX0_placeOfBit_12 : decode cX0_placeOfBit 12 = .ok (.lload_n 3, 1) := by decide +kernel
theorem dX0_placeOfBit_13 : decode cX0_placeOfBit 13 = .ok (.lconst 1, 1) := by decide +kernel
theorem dX0_placeOfBit_14 : decode cX0_placeOfBit 14 = .ok (.lsub, 1) := by decide +kernel
theorem dX0_placeOfBit_15 : decode cX0_placeOfBit 15 = .ok (.land, 1) := by decide +kernel
theorem dX0_placeOfBit_16 : decode cX0_placeOfBit 16 = .ok (.lstore_n 3, 1) := by decide +kernel
theorem dX0_placeOfBit_17 : decode cX0_placeOfBit 17 = .ok (.iinc 5 1, 3) := by decide +kernel
theorem dX0_placeOfBit_20 : decode cX0_placeOfBit 20 = .ok (.goto (-15), 3) := by decide +kernel
theorem dX0_placeOfBit_23 : decode cX0_placeOfBit 23 = .ok (.lload_n 3, 1) := by decide +kernel
theorem dX0_placeOfBit_24 : decode cX0_placeOfBit 24 = .ok (.lload_n 3, 1) := by decide +kernel
theorem dX0_placeOfBit_25 : decode cX0_placeOfBit 25 = .ok (.lneg, 1) := by decide +kernel
theorem dX0_placeOfBit_26 : decode cX0_placeOfBit 26 = .ok (.land, 1) := by decide +kernel
theorem dX0_placeOfBit_27 : decode cX0_placeOfBit 27 = .ok (.lconst 1, 1) := by decide +kernel
theorem dX0_placeOfBit_28 : decode cX0_placeOfBit 28 = .ok (.lsub, 1) := by decide +kernel
theorem dX0_placeOfBit_29 : decode cX0_placeOfBit 29 = .ok (.invokestatic 104, 3) := by decide +kernel
theorem dX0_placeOfBit_32 : decode cX0_placeOfBit 32 = .ok (.ireturn, 1) := by decide +kernel
set_option maxRecDepth 20000 in
theorem ggX0_firstFrom_X0_numbersBelow : GoodIn wsX0_firstFrom wsX0_numbersBelow := goodIn_r _ [5, 6, 7, 8, 9, 10, 11, 12, 13, 14, 15, 16, 24, 25, 26, 27, 28, 29, 30] (by decide +kernel) (by decide +kernel)
set_option maxRecDepth 20000 in
theorem gX0_firstFrom_X0_numbersBelow : GoodIn wsX0_firstFrom (wsV RX0 114 RX0 yX0_numbersBelow wsX0_numbersBelow) := goodIn_app (goodIn_of _ (by decide +kernel)) ggX0_firstFrom_X0_numbersBelow
set_option maxRecDepth 20000 in
theorem ggX0_firstFrom_X0_numberAt : GoodIn wsX0_firstFrom wsX0_numberAt := goodIn_r _ [20, 6, 10, 11, 12, 13, 14, 15, 16, 21, 22, 4, 23, 24, 25, 26, 27, 28, 29, 30] (by decide +kernel) (by decide +kernel)
set_option maxRecDepth 20000 in
theorem gX0_firstFrom_X0_numberAt : GoodIn wsX0_firstFrom (wsV RX0 117 RX0 yX0_numberAt wsX0_numberAt) := goodIn_app (goodIn_of _ (by decide +kernel)) ggX0_firstFrom_X0_numberAt
theorem dX0_firstFrom_0 : decode cX0_firstFrom 0 = .ok (.aload_n 0, 1) := by decide +kernel
theorem dX0_firstFrom_1 : decode cX0_firstFrom 1 = .ok (.aload_n 0, 1) := by decide +kernel
theorem dX0_firstFrom_2 : decode cX0_firstFrom 2 = .ok (.iload_n 1, 1) := by decide +kernel
theorem dX0_firstFrom_3 : decode cX0_firstFrom 3 = .ok (.invokevirtual 114, 3) := by decide +kernel
theorem dX0_firstFrom_6 : decode cX0_firstFrom 6 = .ok (.invokevirtual 117, 3) := by decide +kernel
theorem dX0_firstFrom_9 : decode cX0_firstFrom 9 = .ok (.ireturn, 1) := by decide +kernel
set_option maxRecDepth 20000 in
theorem ggX0_firstGap_X0_holds : GoodIn wsX0_firstGap wsX0_holds := goodIn_r _ [5, 6, 7, 8, 9, 10, 11, 12, 13, 14, 15, 16] (by decide +kernel) (by decide +kernel)
set_option maxRecDepth 20000 in
theorem gX0_firstGap_X0_holds : GoodIn wsX0_firstGap (wsV RX0 58 RX0 yX0_holds wsX0_holds) := goodIn_app (goodIn_of _ (by decide +kernel)) ggX0_firstGap_X0_holds
theorem dX0_firstGap_0 : decode cX0_firstGap 0 = .ok (.iconst 0, 1) := by decide +kernel
theorem dX0_firstGap_1 : decode cX0_firstGap 1 = .ok (.istore_n 2, 1) := by decide +kernel
theorem dX0_firstGap_2 : decode cX0_firstGap 2 = .ok (.iconst 0, 1) := by decide +kernel
theorem dX0_firstGap_3 : decode cX0_firstGap 3 = .ok (.istore_n 3, 1) := by decide +kernel
theorem dX0_firstGap_4 : decode cX0_firstGap 4 = .ok (.iload_n 3, 1) := by decide +kernel
theorem dX0_firstGap_5 : decode cX0_firstGap 5 = .ok (.sipush 2048, 3) := by decide +kernel
theorem dX0_firstGap_8 : decode cX0_firstGap 8 = .ok (.if_icmp .ge 35, 3) := by decide +kernel
theorem dX0_firstGap_11 : decode cX0_firstGap 11 = .ok (.aload_n 0, 1) := by decide +kernel
theorem dX0_firstGap_12 : decode cX0_firstGap 12 = .ok (.iload_n 3, 1) := by decide +kernel
theorem dX0_firstGap_13 : decode cX0_firstGap 13 = .ok (.invokevirtual 58, 3) := by decide +kernel
theorem dX0_firstGap_16 : decode cX0_firstGap 16 = .ok (.ifCond .eq 10, 3) := by decide +kernel
theorem dX0_firstGap_19 : decode cX0_firstGap 19 = .ok (.iload_n 3, 1) := by decide +kernel
theorem dX0_firstGap_20 : decode cX0_firstGap 20 = .ok (.iconst 1, 1) := by decide +kernel
theorem dX0_firstGap_21 : decode cX0_firstGap 21 = .ok (.iadd, 1) := by decide +kernel
theorem dX0_firstGap_22 : decode cX0_firstGap 22 = .ok (.istore_n 2, 1) := by decide +kernel
theorem dX0_firstGap_23 : decode cX0_firstGap 23 = .ok (.goto 14, 3) := by decide +kernel
theorem dX0_firstGap_26 : decode cX0_firstGap 26 = .ok (.iload_n 3, 1) := by decide +kernel
theorem dX0_firstGap_27 : decode cX0_firstGap 27 = .ok (.iload_n 2, 1) := by decide +kernel
theorem dX0_firstGap_28 : decode cX0_firstGap 28 = .ok (.isub, 1) := by decide +kernel
theorem dX0_firstGap_29 : decode cX0_firstGap 29 = .ok (.iconst 1, 1) := by decide +kernel
theorem dX0_firstGap_30 : decode cX0_firstGap 30 = .ok (.iadd, 1) := by decide +kernel
theorem dX0_firstGap_31 : decode cX0_firstGap 31 = .ok (.iload_n 1, 1) := by decide +kernel
theorem dX0_firstGap_32 : decode cX0_firstGap 32 = .ok (.if_icmp .lt 5, 3) := by decide +kernel
theorem dX0_firstGap_35 : decode cX0_firstGap 35 = .ok (.iload_n 2, 1) := by decide +kernel
theorem dX0_firstGap_36 : decode cX0_firstGap 36 = .ok (.ireturn, 1) := by decide +kernel
theorem dX0_firstGap_37 : decode cX0_firstGap 37 = .ok (.iinc 3 1, 3) := by decide +kernel
theorem dX0_firstGap_40 : decode cX0_firstGap 40 = .ok (.goto (-36), 3) := by decide +kernel
theorem dX0_firstGap_43 : decode cX0_firstGap 43 = .ok (.bipush (-5), 2) := by decide +kernel
theorem dX0_firstGap_45 : decode cX0_firstGap 45 = .ok (.ireturn, 1) := by decide +kernel
set_option maxRecDepth 20000 in
theorem ggX1_init_X0_init : GoodIn wsX1_init wsX0_init := goodIn_r _ [10, 11, 2, 3, 12, 13, 14, 15, 16, 17, 20, 21, 22, 23, 24, 25, 26] (by decide +kernel) (by decide +kernel)
set_option maxRecDepth 20000 in
theorem gX1_init_X0_init : GoodIn wsX1_init (wsX0_init) := ggX1_init_X0_init
theorem dX1_init_0 : decode cX1_init 0 = .ok (.aload_n 0, 1) := by decide +kernel
theorem dX1_init_1 : decode cX1_init 1 = .ok (.invokespecial 3, 3) := by decide +kernel
theorem dX1_init_4 : decode cX1_init 4 = .ok (.aload_n 0, 1) := by decide +kernel
theorem dX1_init_5 : decode cX1_init 5 = .ok (.bipush 6, 2) := by decide +kernel
theorem dX1_init_7 : decode cX1_init 7 = .ok (.anewarray 9, 3) := by decide +kernel
theorem dX1_init_10 : decode cX1_init 10 = .ok (.putfield 11, 3) := by decide +kernel
theorem dX1_init_13 : decode cX1_init 13 = .ok (.iconst 0, 1) := by decide +kernel
theorem dX1_init_14 : decode cX1_init 14 = .ok (.istore_n 1, 1) := by decide +kernel
theorem dX1_init_15 : decode cX1_init 15 = .ok (.iload_n 1, 1) := by decide +kernel
theorem dX1_init_16 : decode cX1_init 16 = .ok (.bipush 6, 2) := by decide +kernel
theorem dX1_init_18 : decode cX1_init 18 = .ok (.if_icmp .ge 22, 3) := by decide +kernel
theorem dX1_init_21 : decode cX1_init 21 = .ok (.aload_n 0, 1) := by decide +kernel
theorem dX1_init_22 : decode cX1_init 22 = .ok (.getfield 11, 3) := by decide +kernel
theorem dX1_init_25 : decode cX1_init 25 = .ok (.iload_n 1, 1) := by decide +kernel
theorem dX1_init_26 : decode cX1_init 26 = .ok (.new 9, 3) := by decide +kernel
theorem dX1_init_29 : decode cX1_init 29 = .ok (.dup, 1) := by decide +kernel
theorem dX1_init_30 : decode cX1_init 30 = .ok (.invokespecial 17, 3) := by decide +kernel
theorem dX1_init_33 : decode cX1_init 33 = .ok (.aastore, 1) := by decide +kernel
theorem dX1_init_34 : decode cX1_init 34 = .ok (.iinc 1 1, 3) := by decide +kernel
theorem dX1_init_37 : decode cX1_init 37 = .ok (.goto (-22), 3) := by decide +kernel
theorem dX1_init_40 : decode cX1_init 40 = .ok (.return_, 1) := by decide +kernel
set_option maxRecDepth 20000 in
theorem ggX1_copyFrom_X0_copyFrom : GoodIn wsX1_copyFrom wsX0_copyFrom := goodIn_r _ [7, 8, 9, 10, 11, 12, 13, 14, 15, 16, 17, 18, 21, 22, 23, 24, 25, 26, 27] (by decide +kernel) (by decide +kernel)
set_option maxRecDepth 20000 in
theorem gX1_copyFrom_X0_copyFrom : GoodIn wsX1_copyFrom (wsV RX1 22 RX0 yX0_copyFrom wsX0_copyFrom) := goodIn_app (goodIn_of _ (by decide +kernel)) ggX1_copyFrom_X0_copyFrom
theorem dX1_copyFrom_0 : decode cX1_copyFrom 0 = .ok (.aload_n 0, 1) := by decide +kernel
theorem dX1_copyFrom_1 : decode cX1_copyFrom 1 = .ok (.aload_n 1, 1) := by decide +kernel
theorem dX1_copyFrom_2 : decode cX1_copyFrom 2 = .ok (.getfield 18, 3) := by decide +kernel
theorem dX1_copyFrom_5 : decode cX1_copyFrom 5 = .ok (.putfield 18, 3) := by decide +kernel
theorem dX1_copyFrom_8 : decode cX1_copyFrom 8 = .ok (.iconst 0, 1) := by decide +kernel
theorem dX1_copyFrom_9 : decode cX1_copyFrom 9 = .ok (.istore_n 2, 1) := by decide +kernel
theorem dX1_copyFrom_10 : decode cX1_copyFrom 10 = .ok (.iload_n 2, 1) := by decide +kernel
theorem dX1_copyFrom_11 : decode cX1_copyFrom 11 = .ok (.aload_n 0, 1) := by decide +kernel
theorem dX1_copyFrom_12 : decode cX1_copyFrom 12 = .ok (.getfield 18, 3) := by decide +kernel
theorem dX1_copyFrom_15 : decode cX1_copyFrom 15 = .ok (.if_icmp .ge 24, 3) := by decide +kernel
theorem dX1_copyFrom_18 : decode cX1_copyFrom 18 = .ok (.aload_n 0, 1) := by decide +kernel
theorem dX1_copyFrom_19 : decode cX1_copyFrom 19 = .ok (.getfield 11, 3) := by decide +kernel
theorem dX1_copyFrom_22 : decode cX1_copyFrom 22 = .ok (.iload_n 2, 1) := by decide +kernel
theorem dX1_copyFrom_23 : decode cX1_copyFrom 23 = .ok (.aaload, 1) := by decide +kernel
theorem dX1_copyFrom_24 : decode cX1_copyFrom 24 = .ok (.aload_n 1, 1) := by decide +kernel
theorem dX1_copyFrom_25 : decode cX1_copyFrom 25 = .ok (.getfield 11, 3) := by decide +kernel
theorem dX1_copyFrom_28 : decode cX1_copyFrom 28 = .ok (.iload_n 2, 1) := by decide +kernel
theorem dX1_copyFrom_29 : decode cX1_copyFrom 29 = .ok (.aaload, 1) := by decide +kernel
theorem dX1_copyFrom_30 : decode cX1_copyFrom 30 = .ok (.invokevirtual 22, 3) := by decide +kernel
theorem dX1_copyFrom_33 : decode cX1_copyFrom 33 = .ok (.iinc 2 1, 3) := by decide +kernel
theorem dX1_copyFrom_36 : decode cX1_copyFrom 36 = .ok (.goto (-26), 3) := by decide +kernel
theorem dX1_copyFrom_39 : decode cX1_copyFrom 39 = .ok (.return_, 1) := by decide +kernel
set_option maxRecDepth 20000 in
theorem ggX1_open_X0_begin : GoodIn wsX1_open wsX0_begin := goodIn_r _ [7, 8, 9, 10, 11, 12, 13, 6, 14, 15, 16, 17, 18, 19, 20, 21, 22, 23, 24, 25, 28, 29, 30, 31, 32, 33, 34] (by decide +kernel) (by decide +kernel)
set_option maxRecDepth 20000 in
theorem gX1_open_X0_begin : GoodIn wsX1_open (wsV RX1 26 RX0 yX0_begin wsX0_begin) := goodIn_app (goodIn_of _ (by decide +kernel)) ggX1_open_X0_begin
theorem dX1_open_0 : decode cX1_open 0 = .ok (.aload_n 0, 1) := by decide +kernel
theorem dX1_open_1 : decode cX1_open 1 = .ok (.getfield 18, 3) := by decide +kernel
theorem dX1_open_4 : decode cX1_open 4 = .ok (.bipush 6, 2) := by decide +kernel
theorem dX1_open_6 : decode cX1_open 6 = .ok (.if_icmp .lt 6, 3) := by decide +kernel
theorem dX1_open_9 : decode cX1_open 9 = .ok (.bipush (-3), 2) := by decide +kernel
theorem dX1_open_11 : decode cX1_open 11 = .ok (.ireturn, 1) := by decide +kernel
theorem dX1_open_12 : decode cX1_open 12 = .ok (.aload_n 0, 1) := by decide +kernel
theorem dX1_open_13 : decode cX1_open 13 = .ok (.getfield 11, 3) := by decide +kernel
theorem dX1_open_16 : decode cX1_open 16 = .ok (.aload_n 0, 1) := by decide +kernel
theorem dX1_open_17 : decode cX1_open 17 = .ok (.getfield 18, 3) := by decide +kernel
theorem dX1_open_20 : decode cX1_open 20 = .ok (.aaload, 1) := by decide +kernel
theorem dX1_open_21 : decode cX1_open 21 = .ok (.iload_n 1, 1) := by decide +kernel
theorem dX1_open_22 : decode cX1_open 22 = .ok (.invokevirtual 26, 3) := by decide +kernel
theorem dX1_open_25 : decode cX1_open 25 = .ok (.aload_n 0, 1) := by decide +kernel
theorem dX1_open_26 : decode cX1_open 26 = .ok (.dup, 1) := by decide +kernel
theorem dX1_open_27 : decode cX1_open 27 = .ok (.getfield 18, 3) := by decide +kernel
theorem dX1_open_30 : decode cX1_open 30 = .ok (.iconst 1, 1) := by decide +kernel
theorem dX1_open_31 : decode cX1_open 31 = .ok (.iadd, 1) := by decide +kernel
theorem dX1_open_32 : decode cX1_open 32 = .ok (.putfield 18, 3) := by decide +kernel
theorem dX1_open_35 : decode cX1_open 35 = .ok (.aload_n 0, 1) := by decide +kernel
theorem dX1_open_36 : decode cX1_open 36 = .ok (.getfield 18, 3) := by decide +kernel
theorem dX1_open_39 : decode cX1_open 39 = .ok (.iconst 1, 1) := by decide +kernel
theorem dX1_open_40 : decode cX1_open 40 = .ok (.isub, 1) := by decide +kernel
theorem dX1_open_41 : decode cX1_open 41 = .ok (.ireturn, 1) := by decide +kernel
theorem dX1_setsAtSea_0 : decode cX1_setsAtSea 0 = .ok (.iconst 0, 1) := by decide +kernel
theorem dX1_setsAtSea_1 : decode cX1_setsAtSea 1 = .ok (.istore_n 1, 1) := by decide +kernel
theorem dX1_setsAtSea_2 : decode cX1_setsAtSea 2 = .ok (.iconst 0, 1) := by decide +kernel
theorem dX1_setsAtSea_3 : decode cX1_setsAtSea 3 = .ok (.istore_n 2, 1) := by decide +kernel
theorem dX1_setsAtSea_4 : decode cX1_setsAtSea 4 = .ok (.iload_n 2, 1) := by decide +kernel
theorem dX1_setsAtSea_5 : decode cX1_setsAtSea 5 = .ok (.aload_n 0, 1) := by decide +kernel
theorem dX1_setsAtSea_6 : decode cX1_setsAtSea 6 = .ok (.getfield 18, 3) := by decide +kernel
theorem dX1_setsAtSea_9 : decode cX1_setsAtSea 9 = .ok (.if_icmp .ge 29, 3) := by decide +kernel
theorem dX1_setsAtSea_12 : decode cX1_setsAtSea 12 = .ok (.iload_n 1, 1) := by decide +kernel
theorem dX1_setsAtSea_13 : decode cX1_setsAtSea 13 = .ok (.aload_n 0, 1) := by decide +kernel
theorem dX1_setsAtSea_14 : decode cX1_setsAtSea 14 = .ok (.getfield 11, 3) := by decide +kernel
theorem dX1_setsAtSea_17 : decode cX1_setsAtSea 17 = .ok (.iload_n 2, 1) := by decide +kernel
theorem dX1_setsAtSea_18 : decode cX1_setsAtSea 18 = .ok (.aaload, 1) := by decide +kernel
theorem dX1_setsAtSea_19 : decode cX1_setsAtSea 19 = .ok (.getfield 30, 3) := by decide +kernel
theorem dX1_setsAtSea_22 : decode cX1_setsAtSea 22 = .ok (.ifCond .eq 7, 3) := by decide +kernel
theorem dX1_setsAtSea_25 : decode cX1_setsAtSea 25 = .ok (.iconst 1, 1) := by decide +kernel
theorem dX1_setsAtSea_26 : decode cX1_setsAtSea 26 = .ok (.goto 4, 3) := by decide +kernel
theorem dX1_setsAtSea_29 : decode cX1_setsAtSea 29 = .ok (.iconst 0, 1) := by decide +kernel
theorem dX1_setsAtSea_30 : decode cX1_setsAtSea 30 = .ok (.iadd, 1) := by decide +kernel
theorem dX1_setsAtSea_31 : decode cX1_setsAtSea 31 = .ok (.istore_n 1, 1) := by decide +kernel
theorem dX1_setsAtSea_32 : decode cX1_setsAtSea 32 = .ok (.iinc 2 1, 3) := by decide +kernel
theorem dX1_setsAtSea_35 : decode cX1_setsAtSea 35 = .ok (.goto (-31), 3) := by decide +kernel
theorem dX1_setsAtSea_38 : decode cX1_setsAtSea 38 = .ok (.iload_n 1, 1) := by decide +kernel
theorem dX1_setsAtSea_39 : decode cX1_setsAtSea 39 = .ok (.ireturn, 1) := by decide +kernel
set_option maxRecDepth 20000 in
theorem ggX1_boatsOfKind_X0_boatsOfKind : GoodIn wsX1_boatsOfKind wsX0_boatsOfKind := goodIn_r _ [7, 8, 9, 12, 13, 14, 15, 16, 17, 18] (by decide +kernel) (by decide +kernel)
set_option maxRecDepth 20000 in
theorem gX1_boatsOfKind_X0_boatsOfKind : GoodIn wsX1_boatsOfKind (wsV RX1 34 RX0 yX0_boatsOfKind wsX0_boatsOfKind) := goodIn_app (goodIn_of _ (by decide +kernel)) ggX1_boatsOfKind_X0_boatsOfKind
theorem dX1_boatsOfKind_0 : decode cX1_boatsOfKind 0 = .ok (.iconst 0, 1) := by decide +kernel
theorem dX1_boatsOfKind_1 : decode cX1_boatsOfKind 1 = .ok (.istore_n 2, 1) := by decide +kernel
theorem dX1_boatsOfKind_2 : decode cX1_boatsOfKind 2 = .ok (.iconst 0, 1) := by decide +kernel
theorem dX1_boatsOfKind_3 : decode cX1_boatsOfKind 3 = .ok (.istore_n 3, 1) := by decide +kernel
theorem dX1_boatsOfKind_4 : decode cX1_boatsOfKind 4 = .ok (.iload_n 3, 1) := by decide +kernel
theorem dX1_boatsOfKind_5 : decode cX1_boatsOfKind 5 = .ok (.aload_n 0, 1) := by decide +kernel
theorem dX1_boatsOfKind_6 : decode cX1_boatsOfKind 6 = .ok (.getfield 18, 3) := by decide +kernel
theorem dX1_boatsOfKind_9 : decode cX1_boatsOfKind 9 = .ok (.if_icmp .ge 22, 3) := by decide +kernel
theorem dX1_boatsOfKind_12 : decode cX1_boatsOfKind 12 = .ok (.iload_n 2, 1) := by decide +kernel
theorem dX1_boatsOfKind_13 : decode cX1_boatsOfKind 13 = .ok (.aload_n 0, 1) := by decide +kernel
theorem dX1_boatsOfKind_14 : decode cX1_boatsOfKind 14 = .ok (.getfield 11, 3) := by decide +kernel
theorem dX1_boatsOfKind_17 : decode cX1_boatsOfKind 17 = .ok (.iload_n 3, 1) := by decide +kernel
theorem dX1_boatsOfKind_18 : decode cX1_boatsOfKind 18 = .ok (.aaload, 1) := by decide +kernel
theorem dX1_boatsOfKind_19 : decode cX1_boatsOfKind 19 = .ok (.iload_n 1, 1) := by decide +kernel
theorem dX1_boatsOfKind_20 : decode cX1_boatsOfKind 20 = .ok (.invokevirtual 34, 3) := by decide +kernel
theorem dX1_boatsOfKind_23 : decode cX1_boatsOfKind 23 = .ok (.iadd, 1) := by decide +kernel
theorem dX1_boatsOfKind_24 : decode cX1_boatsOfKind 24 = .ok (.istore_n 2, 1) := by decide +kernel
theorem dX1_boatsOfKind_25 : decode cX1_boatsOfKind 25 = .ok (.iinc 3 1, 3) := by decide +kernel
theorem dX1_boatsOfKind_28 : decode cX1_boatsOfKind 28 = .ok (.goto (-24), 3) := by decide +kernel
theorem dX1_boatsOfKind_31 : decode cX1_boatsOfKind 31 = .ok (.iload_n 2, 1) := by decide +kernel
theorem dX1_boatsOfKind_32 : decode cX1_boatsOfKind 32 = .ok (.ireturn, 1) := by decide +kernel
set_option maxRecDepth 20000 in
theorem ggX1_units_X0_units : GoodIn wsX1_units wsX0_units := goodIn_r _ [7, 8, 9, 10, 11, 6, 12, 13, 14, 17, 18, 19, 20, 21, 22, 23] (by decide +kernel) (by decide +kernel)
set_option maxRecDepth 20000 in
theorem gX1_units_X0_units : GoodIn wsX1_units (wsV RX1 38 RX0 yX0_units wsX0_units) := goodIn_app (goodIn_of _ (by decide +kernel)) ggX1_units_X0_units
theorem dX1_units_0 : decode cX1_units 0 = .ok (.iconst 0, 1) := by decide +kernel
theorem dX1_units_1 : decode cX1_units 1 = .ok (.istore_n 1, 1) := by decide +kernel
theorem dX1_units_2 : decode cX1_units 2 = .ok (.iconst 0, 1) := by decide +kernel
theorem dX1_units_3 : decode cX1_units 3 = .ok (.istore_n 2, 1) := by decide +kernel
theorem dX1_units_4 : decode cX1_units 4 = .ok (.iload_n 2, 1) := by decide +kernel
theorem dX1_units_5 : decode cX1_units 5 = .ok (.aload_n 0, 1) := by decide +kernel
theorem dX1_units_6 : decode cX1_units 6 = .ok (.getfield 18, 3) := by decide +kernel
theorem dX1_units_9 : decode cX1_units 9 = .ok (.if_icmp .ge 21, 3) := by decide +kernel
theorem dX1_units_12 : decode cX1_units 12 = .ok (.iload_n 1, 1) := by decide +kernel
theorem dX1_units_13 : decode cX1_units 13 = .ok (.aload_n 0, 1) := by decide +kernel
theorem dX1_units_14 : decode cX1_units 14 = .ok (.getfield 11, 3) := by decide +kernel
theorem dX1_units_17 : decode cX1_units 17 = .ok (.iload_n 2, 1) := by decide +kernel
theorem dX1_units_18 : decode cX1_units 18 = .ok (.aaload, 1) := by decide +kernel
theorem dX1_units_19 : decode cX1_units 19 = .ok (.invokevirtual 38, 3) := by decide +kernel
theorem dX1_units_22 : decode cX1_units 22 = .ok (.iadd, 1) := by decide +kernel
theorem dX1_units_23 : decode cX1_units 23 = .ok (.istore_n 1, 1) := by decide +kernel
theorem dX1_units_24 : decode cX1_units 24 = .ok (.iinc 2 1, 3) := by decide +kernel
theorem dX1_units_27 : decode cX1_units 27 = .ok (.goto (-23), 3) := by decide +kernel
theorem dX1_units_30 : decode cX1_units 30 = .ok (.iload_n 1, 1) := by decide +kernel
theorem dX1_units_31 : decode cX1_units 31 = .ok (.ireturn, 1) := by decide +kernel
set_option maxRecDepth 20000 in
theorem ggX1_numbers_X0_numbers : GoodIn wsX1_numbers wsX0_numbers := goodIn_r _ [7, 8, 11, 12, 13, 14, 15, 16, 17] (by decide +kernel) (by decide +kernel)
set_option maxRecDepth 20000 in
theorem gX1_numbers_X0_numbers : GoodIn wsX1_numbers (wsV RX1 42 RX0 yX0_numbers wsX0_numbers) := goodIn_app (goodIn_of _ (by decide +kernel)) ggX1_numbers_X0_numbers
theorem dX1_numbers_0 : decode cX1_numbers 0 = .ok (.iconst 0, 1) := by decide +kernel
theorem dX1_numbers_1 : decode cX1_numbers 1 = .ok (.istore_n 1, 1) := by decide +kernel
theorem dX1_numbers_2 : decode cX1_numbers 2 = .ok (.iconst 0, 1) := by decide +kernel
theorem dX1_numbers_3 : decode cX1_numbers 3 = .ok (.istore_n 2, 1) := by decide +kernel
theorem dX1_numbers_4 : decode cX1_numbers 4 = .ok (.iload_n 2, 1) := by decide +kernel
theorem dX1_numbers_5 : decode cX1_numbers 5 = .ok (.aload_n 0, 1) := by decide +kernel
theorem dX1_numbers_6 : decode cX1_numbers 6 = .ok (.getfield 18, 3) := by decide +kernel
theorem dX1_numbers_9 : decode cX1_numbers 9 = .ok (.if_icmp .ge 21, 3) := by decide +kernel
theorem dX1_numbers_12 : decode cX1_numbers 12 = .ok (.iload_n 1, 1) := by decide +kernel
theorem dX1_numbers_13 : decode cX1_numbers 13 = .ok (.aload_n 0, 1) := by decide +kernel
theorem dX1_numbers_14 : decode cX1_numbers 14 = .ok (.getfield 11, 3) := by decide +kernel
theorem dX1_numbers_17 : decode cX1_numbers 17 = .ok (.iload_n 2, 1) := by decide +kernel
theorem dX1_numbers_18 : decode cX1_numbers 18 = .ok (.aaload, 1) := by decide +kernel
theorem dX1_numbers_19 : decode cX1_numbers 19 = .ok (.invokevirtual 42, 3) := by decide +kernel
theorem dX1_numbers_22 : decode cX1_numbers 22 = .ok (.iadd, 1) := by decide +kernel
theorem dX1_numbers_23 : decode cX1_numbers 23 = .ok (.istore_n 1, 1) := by decide +kernel
theorem dX1_numbers_24 : decode cX1_numbers 24 = .ok (.iinc 2 1, 3) := by decide +kernel
theorem dX1_numbers_27 : decode cX1_numbers 27 = .ok (.goto (-23), 3) := by decide +kernel
theorem dX1_numbers_30 : decode cX1_numbers 30 = .ok (.iload_n 1, 1) := by decide +kernel
theorem dX1_numbers_31 : decode cX1_numbers 31 = .ok (.ireturn, 1) := by decide +kernel
theorem dX1_tollsPaid_0 : decode cX1_tollsPaid 0 = .ok (.iconst 0, 1) := by decide +kernel
theorem dX1_tollsPaid_1 : decode cX1_tollsPaid 1 = .ok (.istore_n 1, 1) := by decide +kernel
theorem dX1_tollsPaid_2 : decode cX1_tollsPaid 2 = .ok (.iconst 0, 1) := by decide +kernel
theorem dX1_tollsPaid_3 : decode cX1_tollsPaid 3 = .ok (.istore_n 2, 1) := by decide +kernel
theorem dX1_tollsPaid_4 : decode cX1_tollsPaid 4 = .ok (.iload_n 2, 1) := by decide +kernel
theorem dX1_tollsPaid_5 : decode cX1_tollsPaid 5 = .ok (.aload_n 0, 1) := by decide +kernel
theorem dX1_tollsPaid_6 : decode cX1_tollsPaid 6 = .ok (.getfield 18, 3) := by decide +kernel
theorem dX1_tollsPaid_9 : decode cX1_tollsPaid 9 = .ok (.if_icmp .ge 21, 3) := by decide +kernel
theorem dX1_tollsPaid_12 : decode cX1_tollsPaid 12 = .ok (.iload_n 1, 1) := by decide +kernel
theorem dX1_tollsPaid_13 : decode cX1_tollsPaid 13 = .ok (.aload_n 0, 1) := by decide +kernel
theorem dX1_tollsPaid_14 : decode cX1_tollsPaid 14 = .ok (.getfield 11, 3) := by decide +kernel
theorem dX1_tollsPaid_17 : decode cX1_tollsPaid 17 = .ok (.iload_n 2, 1) := by decide +kernel
theorem dX1_tollsPaid_18 : decode cX1_tollsPaid 18 = .ok (.aaload, 1) := by decide +kernel
theorem dX1_tollsPaid_19 : decode cX1_tollsPaid 19 = .ok (.getfield 45, 3) := by decide +kernel
theorem dX1_tollsPaid_22 : decode cX1_tollsPaid 22 = .ok (.iadd, 1) := by decide +kernel
theorem dX1_tollsPaid_23 : decode cX1_tollsPaid 23 = .ok (.istore_n 1, 1) := by decide +kernel
theorem dX1_tollsPaid_24 : decode cX1_tollsPaid 24 = .ok (.iinc 2 1, 3) := by decide +kernel
theorem dX1_tollsPaid_27 : decode cX1_tollsPaid 27 = .ok (.goto (-23), 3) := by decide +kernel
theorem dX1_tollsPaid_30 : decode cX1_tollsPaid 30 = .ok (.iload_n 1, 1) := by decide +kernel
theorem dX1_tollsPaid_31 : decode cX1_tollsPaid 31 = .ok (.ireturn, 1) := by decide +kernel
set_option maxRecDepth 20000 in
theorem ggX1_differentNumbers_X1_heldByAny : GoodIn wsX1_differentNumbers wsX1_heldByAny := goodIn_r _ [5, 6, 7, 8, 16, 17, 18, 19, 20, 21, 22, 23, 24] (by decide +kernel) (by decide +kernel)
set_option maxRecDepth 20000 in
theorem gX1_differentNumbers_X1_heldByAny : GoodIn wsX1_differentNumbers (wsV RX1 48 RX1 yX1_heldByAny wsX1_heldByAny) := goodIn_app (goodIn_of _ (by decide +kernel)) ggX1_differentNumbers_X1_heldByAny
set_option maxRecDepth 20000 in
theorem ggX1_differentNumbers_J13_bitCount_95d88 : GoodIn wsX1_differentNumbers wsJ13_bitCount_95d88 := goodIn_r _ [12, 13, 14, 15] (by decide +kernel) (by decide +kernel)
set_option maxRecDepth 20000 in
theorem gX1_differentNumbers_J13_bitCount_95d88 : GoodIn wsX1_differentNumbers (va_wsS RX1 52 yJ13_bitCount_95d88 wsJ13_bitCount_95d88) := goodIn_app (goodIn_of _ (by decide +kernel)) ggX1_differentNumbers_J13_bitCount_95d88
theorem dX1_differentNumbers_0 : decode cX1_differentNumbers 0 = .ok (.iconst 0, 1) := by decide +kernel
theorem dX1_differentNumbers_1 : decode cX1_differentNumbers 1 = .ok (.istore_n 1, 1) := by decide +kernel
theorem dX1_differentNumbers_2 : decode cX1_differentNumbers 2 = .ok (.iconst 0, 1) := by decide +kernel
theorem dX1_differentNumbers_3 : decode cX1_differentNumbers 3 = .ok (.istore_n 2, 1) := by decide +kernel
theorem dX1_differentNumbers_4 : decode cX1_differentNumbers 4 = .ok (.iload_n 2, 1) := by decide +kernel
theorem dX1_differentNumbers_5 : decode cX1_differentNumbers 5 = .ok (.bipush 32, 2) := by decide +kernel
theorem dX1_differentNumbers_7 : decode cX1_differentNumbers 7 = .ok (.if_icmp .ge 20, 3) := by decide +kernel
theorem dX1_differentNumbers_10 : decode cX1_differentNumbers 10 = .ok (.iload_n 1, 1) := by decide +kernel
theorem dX1_differentNumbers_11 : decode cX1_differentNumbers 11 = .ok (.aload_n 0, 1) := by decide +kernel
theorem dX1_differentNumbers_12 : decode cX1_differentNumbers 12 = .ok (.iload_n 2, 1) := by decide +kernel
theorem dX1_differentNumbers_13 : decode cX1_differentNumbers 13 = .ok (.invokevirtual 48, 3) := by decide +kernel
theorem dX1_differentNumbers_16 : decode cX1_differentNumbers 16 = .ok (.invokestatic 52, 3) := by decide +kernel
theorem dX1_differentNumbers_19 : decode cX1_differentNumbers 19 = .ok (.iadd, 1) := by decide +kernel
theorem dX1_differentNumbers_20 : decode cX1_differentNumbers 20 = .ok (.istore_n 1, 1) := by decide +kernel
theorem dX1_differentNumbers_21 : decode cX1_differentNumbers 21 = .ok (.iinc 2 1, 3) := by decide +kernel
theorem dX1_differentNumbers_24 : decode cX1_differentNumbers 24 = .ok (.goto (-20), 3) := by decide +kernel
theorem dX1_differentNumbers_27 : decode cX1_differentNumbers 27 = .ok (.iload_n 1, 1) := by decide +kernel
theorem dX1_differentNumbers_28 : decode cX1_differentNumbers 28 = .ok (.ireturn, 1) := by decide +kernel
theorem dX1_heldByAny_0 : decode cX1_heldByAny 0 = .ok (.lconst 0, 1) := by decide +kernel
theorem dX1_heldByAny_1 : decode cX1_heldByAny 1 = .ok (.lstore_n 2, 1) := by decide +kernel
theorem dX1_heldByAny_2 : decode cX1_heldByAny 2 = .ok (.iconst 0, 1) := by decide +kernel
theorem dX1_heldByAny_3 : decode cX1_heldByAny 3 = .ok (.istore 4, 2) := by decide +kernel
theorem dX1_heldByAny_5 : decode cX1_heldByAny 5 = .ok (.iload 4, 2) := by decide +kernel
theorem dX1_heldByAny_7 : decode cX1_heldByAny 7 = .ok (.aload_n 0, 1) := by decide +kernel
theorem dX1_heldByAny_8 : decode cX1_heldByAny 8 = .ok (.getfield 18, 3) := by decide +kernel
theorem dX1_heldByAny_11 : decode cX1_heldByAny 11 = .ok (.if_icmp .ge 24, 3) := by decide +kernel
theorem dX1_heldByAny_14 : decode cX1_heldByAny 14 = .ok (.lload_n 2, 1) := by decide +kernel
theorem dX1_heldByAny_15 : decode cX1_heldByAny 15 = .ok (.aload_n 0, 1) := by decide +kernel
theorem dX1_heldByAny_16 : decode cX1_heldByAny 16 = .ok (.getfield 11, 3) := by decide +kernel
theorem dX1_heldByAny_19 : decode cX1_heldByAny 19 = .ok (.iload 4, 2) := by decide +kernel
theorem dX1_heldByAny_21 : decode cX1_heldByAny 21 = .ok (.aaload, 1) := by decide +kernel
theorem dX1_heldByAny_22 : decode cX1_heldByAny 22 = .ok (.getfield 58, 3) := by decide +kernel
theorem dX1_heldByAny_25 : decode cX1_heldByAny 25 = .ok (.iload_n 1, 1) := by decide +kernel
theorem dX1_heldByAny_26 : decode cX1_heldByAny 26 = .ok (.laload, 1) := by decide +kernel
theorem dX1_heldByAny_27 : decode cX1_heldByAny 27 = .ok (.lor, 1) := by decide +kernel
theorem dX1_heldByAny_28 : decode cX1_heldByAny 28 = .ok (.lstore_n 2, 1) := by decide +kernel
theorem dX1_heldByAny_29 : decode cX1_heldByAny 29 = .ok (.iinc 4 1, 3) := by decide +kernel
theorem dX1_heldByAny_32 : decode cX1_heldByAny 32 = .ok (.goto (-27), 3) := by decide +kernel
theorem dX1_heldByAny_35 : decode cX1_heldByAny 35 = .ok (.lload_n 2, 1) := by decide +kernel
theorem dX1_heldByAny_36 : decode cX1_heldByAny 36 = .ok (.lreturn, 1) := by decide +kernel
set_option maxRecDepth 20000 in
theorem ggX1_holders_X0_holds : GoodIn wsX1_holders wsX0_holds := goodIn_r _ [7, 8, 9, 10, 11, 14, 15, 16, 17, 18, 19, 20] (by decide +kernel) (by decide +kernel)
set_option maxRecDepth 20000 in
theorem gX1_holders_X0_holds : GoodIn wsX1_holders (wsV RX1 62 RX0 yX0_holds wsX0_holds) := goodIn_app (goodIn_of _ (by decide +kernel)) ggX1_holders_X0_holds
theorem dX1_holders_0 : decode cX1_holders 0 = .ok (.iconst 0, 1) := by decide +kernel
theorem dX1_holders_1 : decode cX1_holders 1 = .ok (.istore_n 2, 1) := by decide +kernel
theorem dX1_holders_2 : decode cX1_holders 2 = .ok (.iconst 0, 1) := by decide +kernel
theorem dX1_holders_3 : decode cX1_holders 3 = .ok (.istore_n 3, 1) := by decide +kernel
theorem dX1_holders_4 : decode cX1_holders 4 = .ok (.iload_n 3, 1) := by decide +kernel
theorem dX1_holders_5 : decode cX1_holders 5 = .ok (.aload_n 0, 1) := by decide +kernel
theorem dX1_holders_6 : decode cX1_holders 6 = .ok (.getfield 18, 3) := by decide +kernel
theorem dX1_holders_9 : decode cX1_holders 9 = .ok (.if_icmp .ge 30, 3) := by decide +kernel
theorem dX1_holders_12 : decode cX1_holders 12 = .ok (.iload_n 2, 1) := by decide +kernel
theorem dX1_holders_13 : decode cX1_holders 13 = .ok (.aload_n 0, 1) := by decide +kernel
theorem dX1_holders_14 : decode cX1_holders 14 = .ok (.getfield 11, 3) := by decide +kernel
theorem dX1_holders_17 : decode cX1_holders 17 = .ok (.iload_n 3, 1) := by decide +kernel
theorem dX1_holders_18 : decode cX1_holders 18 = .ok (.aaload, 1) := by decide +kernel
theorem dX1_holders_19 : decode cX1_holders 19 = .ok (.iload_n 1, 1) := by decide +kernel
theorem dX1_holders_20 : decode cX1_holders 20 = .ok (.invokevirtual 62, 3) := by decide +kernel
theorem dX1_holders_23 : decode cX1_holders 23 = .ok (.ifCond .eq 7, 3) := by decide +kernel
theorem dX1_holders_26 : decode cX1_holders 26 = .ok (.iconst 1, 1) := by decide +kernel
theorem dX1_holders_27 : decode cX1_holders 27 = .ok (.goto 4, 3) := by decide +kernel
theorem dX1_holders_30 : decode cX1_holders 30 = .ok (.iconst 0, 1) := by decide +kernel
theorem dX1_holders_31 : decode cX1_holders 31 = .ok (.iadd, 1) := by decide +kernel
theorem dX1_holders_32 : decode cX1_holders 32 = .ok (.istore_n 2, 1) := by decide +kernel
theorem dX1_holders_33 : decode cX1_holders 33 = .ok (.iinc 3 1, 3) := by decide +kernel
theorem dX1_holders_36 : decode cX1_holders 36 = .ok (.goto (-32), 3) := by decide +kernel
theorem dX1_holders_39 : decode cX1_holders 39 = .ok (.iload_n 2, 1) := by decide +kernel
theorem dX1_holders_40 : decode cX1_holders 40 = .ok (.ireturn, 1) := by decide +kernel
set_option maxRecDepth 20000 in
theorem ggX1_mostHeld_X1_heldByAny : GoodIn wsX1_mostHeld wsX1_heldByAny := goodIn_r _ [5, 6, 7, 8, 22, 23, 24, 25, 26, 27, 28, 29, 30] (by decide +kernel) (by decide +kernel)
set_option maxRecDepth 20000 in
theorem gX1_mostHeld_X1_heldByAny : GoodIn wsX1_mostHeld (wsV RX1 48 RX1 yX1_heldByAny wsX1_heldByAny) := goodIn_app (goodIn_of _ (by decide +kernel)) ggX1_mostHeld_X1_heldByAny
set_option maxRecDepth 20000 in
theorem ggX1_mostHeld_X1_holders : GoodIn wsX1_mostHeld wsX1_holders := goodIn_r _ [12, 6, 7, 13, 14, 15, 16, 17, 18, 19, 20, 21, 22, 23, 24, 25, 26, 27, 28, 29, 30] (by decide +kernel) (by decide +kernel)
set_option maxRecDepth 20000 in
theorem gX1_mostHeld_X1_holders : GoodIn wsX1_mostHeld (wsV RX1 66 RX1 yX1_holders wsX1_holders) := goodIn_app (goodIn_of _ (by decide +kernel)) ggX1_mostHeld_X1_holders
theorem dX1_mostHeld_0 : decode cX1_mostHeld 0 = .ok (.bipush (-5), 2) := by decide +kernel
theorem dX1_mostHeld_2 : decode cX1_mostHeld 2 = .ok (.istore_n 1, 1) := by decide +kernel
theorem dX1_mostHeld_3 : decode cX1_mostHeld 3 = .ok (.iconst 0, 1) := by decide +kernel
theorem dX1_mostHeld_4 : decode cX1_mostHeld 4 = .ok (.istore_n 2, 1) := by decide +kernel
theorem dX1_mostHeld_5 : decode cX1_mostHeld 5 = .ok (.iconst 0, 1) := by decide +kernel
theorem dX1_mostHeld_6 : decode cX1_mostHeld 6 = .ok (.istore_n 3, 1) := by decide +kernel
theorem dX1_mostHeld_7 : decode cX1_mostHeld 7 = .ok (.iload_n 3, 1) := by decide +kernel
theorem dX1_mostHeld_8 : decode cX1_mostHeld 8 = .ok (.bipush 32, 2) := by decide +kernel
theorem dX1_mostHeld_10 : decode cX1_mostHeld 10 = .ok (.if_icmp .ge 72, 3) := by decide +kernel
theorem dX1_mostHeld_13 : decode cX1_mostHeld 13 = .ok (.aload_n 0, 1) := by decide +kernel
theorem dX1_mostHeld_14 : decode cX1_mostHeld 14 = .ok (.iload_n 3, 1) := by decide +kernel
theorem dX1_mostHeld_15 : decode cX1_mostHeld 15 = .ok (.invokevirtual 48, 3) := by decide +kernel
theorem dX1_mostHeld_18 : decode cX1_mostHeld 18 = .ok (.lconst 0, 1) := by decide +kernel
theorem dX1_mostHeld_19 : decode cX1_mostHeld 19 = .ok (.lcmp, 1) := by decide +kernel
theorem dX1_mostHeld_20 : decode cX1_mostHeld 20 = .ok (.ifCond .ne 7, 3) := by decide +kernel
theorem dX1_mostHeld_23 : decode cX1_mostHeld 23 = .ok (.iconst 0, 1) := by decide +kernel
theorem dX1_mostHeld_24 : decode cX1_mostHeld 24 = .ok (.goto 5, 3) := by decide +kernel
theorem dX1_mostHeld_27 : decode cX1_mostHeld 27 = .ok (.bipush 64, 2) := by decide +kernel
theorem dX1_mostHeld_29 : decode cX1_mostHeld 29 = .ok (.istore 4, 2) := by decide +kernel
theorem dX1_mostHeld_31 : decode cX1_mostHeld 31 = .ok (.iconst 0, 1) := by decide +kernel
theorem dX1_mostHeld_32 : decode cX1_mostHeld 32 = .ok (.istore 5, 2) := by decide +kernel
theorem dX1_mostHeld_34 : decode cX1_mostHeld 34 = .ok (.iload 5, 2) := by decide +kernel
theorem dX1_mostHeld_36 : decode cX1_mostHeld 36 = .ok (.iload 4, 2) := by decide +kernel
theorem dX1_mostHeld_38 : decode cX1_mostHeld 38 = .ok (.if_icmp .ge 38, 3) := by decide +kernel
theorem dX1_mostHeld_41 : decode cX1_mostHeld 41 = .ok (.iload_n 3, 1) := by decide +kernel
theorem dX1_mostHeld_42 : decode cX1_mostHeld 42 = .ok (.bipush 64, 2) := by decide +kernel
theorem dX1_mostHeld_44 : decode cX1_mostHeld 44 = .ok (.imul, 1) := by decide +kernel
theorem dX1_mostHeld_45 : decode cX1_mostHeld 45 = .ok (.iload 5, 2) := by decide +kernel
theorem dX1_mostHeld_47 : decode cX1_mostHeld 47 = .ok (.iadd, 1) := by decide +kernel
theorem dX1_mostHeld_48 : decode cX1_mostHeld 48 = .ok (.istore 6, 2) := by decide +kernel
theorem dX1_mostHeld_50 : decode cX1_mostHeld 50 = .ok (.aload_n 0, 1) := by decide +kernel
theorem dX1_mostHeld_51 : decode cX1_mostHeld 51 = .ok (.iload 6, 2) := by decide +kernel
theorem dX1_mostHeld_53 : decode cX1_mostHeld 53 = .ok (.invokevirtual 66, 3) := by decide +kernel
theorem dX1_mostHeld_56 : decode cX1_mostHeld 56 = .ok (.istore 7, 2) := by decide +kernel
theorem dX1_mostHeld_58 : decode cX1_mostHeld 58 = .ok (.iload 7, 2) := by decide +kernel
theorem dX1_mostHeld_60 : decode cX1_mostHeld 60 = .ok (.iload_n 2, 1) := by decide +kernel
theorem dX1_mostHeld_61 : decode cX1_mostHeld 61 = .ok (.if_icmp .le 9, 3) := by decide +kernel
theorem dX1_mostHeld_64 : decode cX1_mostHeld 64 = .ok (.iload 6, 2) := by decide +kernel
theorem dX1_mostHeld_66 : decode cX1_mostHeld 66 = .ok (.istore_n 1, 1) := by decide +kernel
theorem dX1_mostHeld_67 : decode cX1_mostHeld 67 = .ok (.iload 7, 2) := by decide +kernel
theorem dX1_mostHeld_69 : decode cX1_mostHeld 69 = .ok (.istore_n 2, 1) := by decide +kernel
theorem dX1_mostHeld_70 : decode cX1_mostHeld 70 = .ok (.iinc 5 1, 3) := by decide +kernel
theorem dX1_mostHeld_73 : decode cX1_mostHeld 73 = .ok (.goto (-39), 3) := by decide +kernel
theorem dX1_mostHeld_76 : decode cX1_mostHeld 76 = .ok (.iinc 3 1, 3) := by decide +kernel
theorem dX1_mostHeld_79 : decode cX1_mostHeld 79 = .ok (.goto (-72), 3) := by decide +kernel
theorem dX1_mostHeld_82 : decode cX1_mostHeld 82 = .ok (.iload_n 1, 1) := by decide +kernel
theorem dX1_mostHeld_83 : decode cX1_mostHeld 83 = .ok (.ireturn, 1) := by decide +kernel
set_option maxRecDepth 20000 in
theorem ggX1_numberOfAll_X1_heldByAny : GoodIn wsX1_numberOfAll wsX1_heldByAny := goodIn_r _ [5, 6, 7, 8, 22, 23, 24, 25, 26, 27, 28, 29, 30] (by decide +kernel) (by decide +kernel)
set_option maxRecDepth 20000 in
theorem gX1_numberOfAll_X1_heldByAny : GoodIn wsX1_numberOfAll (wsV RX1 48 RX1 yX1_heldByAny wsX1_heldByAny) := goodIn_app (goodIn_of _ (by decide +kernel)) ggX1_numberOfAll_X1_heldByAny
set_option maxRecDepth 20000 in
theorem ggX1_numberOfAll_X1_holders : GoodIn wsX1_numberOfAll wsX1_holders := goodIn_r _ [12, 6, 7, 13, 14, 15, 16, 17, 18, 19, 20, 21, 22, 23, 24, 25, 26, 27, 28, 29, 30] (by decide +kernel) (by decide +kernel)
set_option maxRecDepth 20000 in
theorem gX1_numberOfAll_X1_holders : GoodIn wsX1_numberOfAll (wsV RX1 66 RX1 yX1_holders wsX1_holders) := goodIn_app (goodIn_of _ (by decide +kernel)) ggX1_numberOfAll_X1_holders
theorem dX1_numberOfAll_0 : decode cX1_numberOfAll 0 = .ok (.iload_n 1, 1) := by decide +kernel
theorem dX1_numberOfAll_1 : decode cX1_numberOfAll 1 = .ok (.istore_n 2, 1) := by decide +kernel
theorem dX1_numberOfAll_2 : decode cX1_numberOfAll 2 = .ok (.iconst 0, 1) := by decide +kernel
theorem dX1_numberOfAll_3 : decode cX1_numberOfAll 3 = .ok (.istore_n 3, 1) := by decide +kernel
theorem dX1_numberOfAll_4 : decode cX1_numberOfAll 4 = .ok (.iload_n 3, 1) := by decide +kernel
theorem dX1_numberOfAll_5 : decode cX1_numberOfAll 5 = .ok (.bipush 32, 2) := by decide +kernel
theorem dX1_numberOfAll_7 : decode cX1_numberOfAll 7 = .ok (.if_icmp .ge 68, 3) := by decide +kernel
theorem dX1_numberOfAll_10 : decode cX1_numberOfAll 10 = .ok (.aload_n 0, 1) := by decide +kernel
theorem dX1_numberOfAll_11 : decode cX1_numberOfAll 11 = .ok (.iload_n 3, 1) := by decide +kernel
theorem dX1_numberOfAll_12 : decode cX1_numberOfAll 12 = .ok (.invokevirtual 48, 3) := by decide +kernel
theorem dX1_numberOfAll_15 : decode cX1_numberOfAll 15 = .ok (.lconst 0, 1) := by decide +kernel
theorem dX1_numberOfAll_16 : decode cX1_numberOfAll 16 = .ok (.lcmp, 1) := by decide +kernel
theorem dX1_numberOfAll_17 : decode cX1_numberOfAll 17 = .ok (.ifCond .ne 7, 3) := by decide +kernel
theorem dX1_numberOfAll_20 : decode cX1_numberOfAll 20 = .ok (.iconst 0, 1) := by decide +kernel
theorem dX1_numberOfAll_21 : decode cX1_numberOfAll 21 = .ok (.goto 5, 3) := by decide +kernel
theorem dX1_numberOfAll_24 : decode cX1_numberOfAll 24 = .ok (.bipush 64, 2) := by decide +kernel
theorem dX1_numberOfAll_26 : decode cX1_numberOfAll 26 = .ok (.istore 4, 2) := by decide +kernel
theorem dX1_numberOfAll_28 : decode cX1_numberOfAll 28 = .ok (.iconst 0, 1) := by decide +kernel
theorem dX1_numberOfAll_29 : decode cX1_numberOfAll 29 = .ok (.istore 5, 2) := by decide +kernel
theorem dX1_numberOfAll_31 : decode cX1_numberOfAll 31 = .ok (.iload 5, 2) := by decide +kernel
theorem dX1_numberOfAll_33 : decode cX1_numberOfAll 33 = .ok (.iload 4, 2) := by decide +kernel
theorem dX1_numberOfAll_35 : decode cX1_numberOfAll 35 = .ok (.if_icmp .ge 34, 3) := by decide +kernel
theorem dX1_numberOfAll_38 : decode cX1_numberOfAll 38 = .ok (.iload_n 3, 1) := by decide +kernel
theorem dX1_numberOfAll_39 : decode cX1_numberOfAll 39 = .ok (.bipush 64, 2) := by decide +kernel
theorem dX1_numberOfAll_41 : decode cX1_numberOfAll 41 = .ok (.imul, 1) := by decide +kernel
theorem dX1_numberOfAll_42 : decode cX1_numberOfAll 42 = .ok (.iload 5, 2) := by decide +kernel
theorem dX1_numberOfAll_44 : decode cX1_numberOfAll 44 = .ok (.iadd, 1) := by decide +kernel
theorem dX1_numberOfAll_45 : decode cX1_numberOfAll 45 = .ok (.istore 6, 2) := by decide +kernel
theorem dX1_numberOfAll_47 : decode cX1_numberOfAll 47 = .ok (.iload_n 2, 1) := by decide +kernel
theorem dX1_numberOfAll_48 : decode cX1_numberOfAll 48 = .ok (.aload_n 0, 1) := by decide +kernel
theorem dX1_numberOfAll_49 : decode cX1_numberOfAll 49 = .ok (.iload 6, 2) := by decide +kernel
theorem dX1_numberOfAll_51 : decode cX1_numberOfAll 51 = .ok (.invokevirtual 66, 3) := by decide +kernel
theorem dX1_numberOfAll_54 : decode cX1_numberOfAll 54 = .ok (.isub, 1) := by decide +kernel
theorem dX1_numberOfAll_55 : decode cX1_numberOfAll 55 = .ok (.istore_n 2, 1) := by decide +kernel
theorem dX1_numberOfAll_56 : decode cX1_numberOfAll 56 = .ok (.iload_n 2, 1) := by decide +kernel
theorem dX1_numberOfAll_57 : decode cX1_numberOfAll 57 = .ok (.ifCond .ge 6, 3) := by decide +kernel
theorem dX1_numberOfAll_60 : decode cX1_numberOfAll 60 = .ok (.iload 6, 2) := by decide +kernel
theorem dX1_numberOfAll_62 : decode cX1_numberOfAll 62 = .ok (.ireturn, 1) := by decide +kernel
theorem dX1_numberOfAll_63 : decode cX1_numberOfAll 63 = .ok (.iinc 5 1, 3) := by decide +kernel
theorem dX1_numberOfAll_66 : decode cX1_numberOfAll 66 = .ok (.goto (-35), 3) := by decide +kernel
theorem dX1_numberOfAll_69 : decode cX1_numberOfAll 69 = .ok (.iinc 3 1, 3) := by decide +kernel
theorem dX1_numberOfAll_72 : decode cX1_numberOfAll 72 = .ok (.goto (-68), 3) := by decide +kernel
theorem dX1_numberOfAll_75 : decode cX1_numberOfAll 75 = .ok (.bipush (-5), 2) := by decide +kernel
theorem dX1_numberOfAll_77 : decode cX1_numberOfAll 77 = .ok (.ireturn, 1) := by decide +kernel
set_option maxRecDepth 20000 in
theorem ggX2_init_X1_init : GoodIn wsX2_init wsX1_init := goodIn_r _ [10, 11, 2, 3, 12, 13, 14, 15, 16, 17, 18, 19, 20, 21, 22, 23, 24, 25, 28, 29, 30, 31, 32, 33, 34, 35, 36] (by decide +kernel) (by decide +kernel)
set_option maxRecDepth 20000 in
theorem gX2_init_X1_init : GoodIn wsX2_init (wsX1_init) := ggX2_init_X1_init
theorem dX2_init_0 : decode cX2_init 0 = .ok (.aload_n 0, 1) := by decide +kernel
theorem dX2_init_1 : decode cX2_init 1 = .ok (.invokespecial 3, 3) := by decide +kernel
theorem dX2_init_4 : decode cX2_init 4 = .ok (.aload_n 0, 1) := by decide +kernel
theorem dX2_init_5 : decode cX2_init 5 = .ok (.iconst 4, 1) := by decide +kernel
theorem dX2_init_6 : decode cX2_init 6 = .ok (.anewarray 9, 3) := by decide +kernel
theorem dX2_init_9 : decode cX2_init 9 = .ok (.putfield 11, 3) := by decide +kernel
theorem dX2_init_12 : decode cX2_init 12 = .ok (.iconst 0, 1) := by decide +kernel
theorem dX2_init_13 : decode cX2_init 13 = .ok (.istore_n 1, 1) := by decide +kernel
theorem dX2_init_14 : decode cX2_init 14 = .ok (.iload_n 1, 1) := by decide +kernel
theorem dX2_init_15 : decode cX2_init 15 = .ok (.iconst 4, 1) := by decide +kernel
theorem dX2_init_16 : decode cX2_init 16 = .ok (.if_icmp .ge 22, 3) := by decide +kernel
theorem dX2_init_19 : decode cX2_init 19 = .ok (.aload_n 0, 1) := by decide +kernel
theorem dX2_init_20 : decode cX2_init 20 = .ok (.getfield 11, 3) := by decide +kernel
theorem dX2_init_23 : decode cX2_init 23 = .ok (.iload_n 1, 1) := by decide +kernel
theorem dX2_init_24 : decode cX2_init 24 = .ok (.new 9, 3) := by decide +kernel
theorem dX2_init_27 : decode cX2_init 27 = .ok (.dup, 1) := by decide +kernel
theorem dX2_init_28 : decode cX2_init 28 = .ok (.invokespecial 17, 3) := by decide +kernel
theorem dX2_init_31 : decode cX2_init 31 = .ok (.aastore, 1) := by decide +kernel
theorem dX2_init_32 : decode cX2_init 32 = .ok (.iinc 1 1, 3) := by decide +kernel
theorem dX2_init_35 : decode cX2_init 35 = .ok (.goto (-21), 3) := by decide +kernel
theorem dX2_init_38 : decode cX2_init 38 = .ok (.return_, 1) := by decide +kernel
set_option maxRecDepth 20000 in
theorem ggX2_push_X2_dropOldest : GoodIn wsX2_push wsX2_dropOldest := goodIn_r _ [7, 2, 1, 31, 32] (by decide +kernel) (by decide +kernel)
set_option maxRecDepth 20000 in
theorem gX2_push_X2_dropOldest : GoodIn wsX2_push (wsV RX2 22 RX2 yX2_dropOldest wsX2_dropOldest) := goodIn_app (goodIn_of _ (by decide +kernel)) ggX2_push_X2_dropOldest
set_option maxRecDepth 20000 in
theorem ggX2_push_X1_copyFrom : GoodIn wsX2_push wsX1_copyFrom := goodIn_r _ [12, 13, 14, 15, 16, 17, 18, 19, 20, 21, 22, 23, 24, 25, 26, 27, 28, 29, 30, 33, 34, 35, 36, 37, 38, 39, 40, 41] (by decide +kernel) (by decide +kernel)
set_option maxRecDepth 20000 in
theorem gX2_push_X1_copyFrom : GoodIn wsX2_push (wsV RX2 25 RX1 yX1_copyFrom wsX1_copyFrom) := goodIn_app (goodIn_of _ (by decide +kernel)) ggX2_push_X1_copyFrom
theorem dX2_push_0 : decode cX2_push 0 = .ok (.aload_n 0, 1) := by decide +kernel
theorem dX2_push_1 : decode cX2_push 1 = .ok (.getfield 18, 3) := by decide +kernel
theorem dX2_push_4 : decode cX2_push 4 = .ok (.iconst 4, 1) := by decide +kernel
theorem dX2_push_5 : decode cX2_push 5 = .ok (.if_icmp .lt 7, 3) := by decide +kernel
theorem dX2_push_8 : decode cX2_push 8 = .ok (.aload_n 0, 1) := by decide +kernel
theorem dX2_push_9 : decode cX2_push 9 = .ok (.invokevirtual 22, 3) := by decide +kernel
theorem dX2_push_12 : decode cX2_push 12 = .ok (.aload_n 0, 1) := by decide +kernel
theorem dX2_push_13 : decode cX2_push 13 = .ok (.getfield 11, 3) := by decide +kernel
theorem dX2_push_16 : decode cX2_push 16 = .ok (.aload_n 0, 1) := by decide +kernel
theorem dX2_push_17 : decode cX2_push 17 = .ok (.getfield 18, 3) := by decide +kernel
theorem dX2_push_20 : decode cX2_push 20 = .ok (.aaload, 1) := by decide +kernel
theorem dX2_push_21 : decode cX2_push 21 = .ok (.aload_n 1, 1) := by decide +kernel
theorem dX2_push_22 : decode cX2_push 22 = .ok (.invokevirtual 25, 3) := by decide +kernel
theorem dX2_push_25 : decode cX2_push 25 = .ok (.aload_n 0, 1) := by decide +kernel
theorem dX2_push_26 : decode cX2_push 26 = .ok (.dup, 1) := by decide +kernel
theorem dX2_push_27 : decode cX2_push 27 = .ok (.getfield 18, 3) := by decide +kernel
theorem dX2_push_30 : decode cX2_push 30 = .ok (.iconst 1, 1) := by decide +kernel
theorem dX2_push_31 : decode cX2_push 31 = .ok (.iadd, 1) := by decide +kernel
theorem dX2_push_32 : decode cX2_push 32 = .ok (.putfield 18, 3) := by decide +kernel
theorem dX2_push_35 : decode cX2_push 35 = .ok (.return_, 1) := by decide +kernel
theorem dX2_dropOldest_0 : decode cX2_dropOldest 0 = .ok (.aload_n 0, 1) := by decide +kernel
theorem dX2_dropOldest_1 : decode cX2_dropOldest 1 = .ok (.getfield 11, 3) := by decide +kernel
theorem dX2_dropOldest_4 : decode cX2_dropOldest 4 = .ok (.iconst 0, 1) := by decide +kernel
theorem dX2_dropOldest_5 : decode cX2_dropOldest 5 = .ok (.aaload, 1) := by decide +kernel
theorem dX2_dropOldest_6 : decode cX2_dropOldest 6 = .ok (.astore_n 1, 1) := by decide +kernel
theorem dX2_dropOldest_7 : decode cX2_dropOldest 7 = .ok (.iconst 1, 1) := by decide +kernel
theorem dX2_dropOldest_8 : decode cX2_dropOldest 8 = .ok (.istore_n 2, 1) := by decide +kernel
theorem dX2_dropOldest_9 : decode cX2_dropOldest 9 = .ok (.iload_n 2, 1) := by decide +kernel
theorem dX2_dropOldest_10 : decode cX2_dropOldest 10 = .ok (.iconst 4, 1) := by decide +kernel
theorem dX2_dropOldest_11 : decode cX2_dropOldest 11 = .ok (.if_icmp .ge 23, 3) := by decide +kernel
theorem dX2_dropOldest_14 : decode cX2_dropOldest 14 = .ok (.aload_n 0, 1) := by decide +kernel
theorem dX2_dropOldest_15 : decode cX2_dropOldest 15 = .ok (.getfield 11, 3) := by decide +kernel
theorem dX2_dropOldest_18 : decode cX2_dropOldest 18 = .ok (.iload_n 2, 1) := by decide +kernel
theorem dX2_dropOldest_19 : decode cX2_dropOldest 19 = .ok (.iconst 1, 1) := by decide +kernel
theorem dX2_dropOldest_20 : decode cX2_dropOldest 20 = .ok (.isub, 1) := by decide +kernel
theorem dX2_dropOldest_21 : decode cX2_dropOldest 21 = .ok (.aload_n 0, 1) := by decide +kernel
theorem dX2_dropOldest_22 : decode cX2_dropOldest 22 = .ok (.getfield 11, 3) := by decide +kernel
theorem dX2_dropOldest_25 : decode cX2_dropOldest 25 = .ok (.iload_n 2, 1) := by decide +kernel
theorem dX2_dropOldest_26 : decode cX2_dropOldest 26 = .ok (.aaload, 1) := by decide +kernel
theorem dX2_dropOldest_27 : decode cX2_dropOldest 27 = .ok (.aastore, 1) := by decide +kernel
theorem dX2_dropOldest_28 : decode cX2_dropOldest 28 = .ok (.iinc 2 1, 3) := by decide +kernel
theorem dX2_dropOldest_31 : decode cX2_dropOldest 31 = .ok (.goto (-22), 3) := by decide +kernel
theorem dX2_dropOldest_34 : decode cX2_dropOldest 34 = .ok (.aload_n 0, 1) := by decide +kernel
theorem dX2_dropOldest_35 : decode cX2_dropOldest 35 = .ok (.getfield 11, 3) := by decide +kernel
theorem dX2_dropOldest_38 : decode cX2_dropOldest 38 = .ok (.iconst 3, 1) := by decide +kernel
theorem dX2_dropOldest_39 : decode cX2_dropOldest 39 = .ok (.aload_n 1, 1) := by decide +kernel
theorem dX2_dropOldest_40 : decode cX2_dropOldest 40 = .ok (.aastore, 1) := by decide +kernel
theorem dX2_dropOldest_41 : decode cX2_dropOldest 41 = .ok (.aload_n 0, 1) := by decide +kernel
theorem dX2_dropOldest_42 : decode cX2_dropOldest 42 = .ok (.iconst 3, 1) := by decide +kernel
theorem dX2_dropOldest_43 : decode cX2_dropOldest 43 = .ok (.putfield 18, 3) := by decide +kernel
theorem dX2_dropOldest_46 : decode cX2_dropOldest 46 = .ok (.return_, 1) := by decide +kernel
set_option maxRecDepth 20000 in
theorem ggX2_popInto_X1_copyFrom : GoodIn wsX2_popInto wsX1_copyFrom := goodIn_r _ [7, 8, 9, 10, 11, 12, 13, 14, 15, 16, 17, 18, 19, 20, 21, 22, 23, 24, 25, 28, 29, 30, 31, 32, 33, 34, 35, 36] (by decide +kernel) (by decide +kernel)
set_option maxRecDepth 20000 in
theorem gX2_popInto_X1_copyFrom : GoodIn wsX2_popInto (wsV RX2 25 RX1 yX1_copyFrom wsX1_copyFrom) := goodIn_app (goodIn_of _ (by decide +kernel)) ggX2_popInto_X1_copyFrom
theorem dX2_popInto_0 : decode cX2_popInto 0 = .ok (.aload_n 0, 1) := by decide +kernel
theorem dX2_popInto_1 : decode cX2_popInto 1 = .ok (.getfield 18, 3) := by decide +kernel
theorem dX2_popInto_4 : decode cX2_popInto 4 = .ok (.ifCond .gt 4, 3) := by decide +kernel
theorem dX2_popInto_7 : decode cX2_popInto 7 = .ok (.return_, 1) := by decide +kernel
theorem dX2_popInto_8 : decode cX2_popInto 8 = .ok (.aload_n 0, 1) := by decide +kernel
theorem dX2_popInto_9 : decode cX2_popInto 9 = .ok (.dup, 1) := by decide +kernel
theorem dX2_popInto_10 : decode cX2_popInto 10 = .ok (.getfield 18, 3) := by decide +kernel
theorem dX2_popInto_13 : decode cX2_popInto 13 = .ok (.iconst 1, 1) := by decide +kernel
theorem dX2_popInto_14 : decode cX2_popInto 14 = .ok (.isub, 1) := by decide +kernel
theorem dX2_popInto_15 : decode cX2_popInto 15 = .ok (.putfield 18, 3) := by decide +kernel
theorem dX2_popInto_18 : decode cX2_popInto 18 = .ok (.aload_n 1, 1) := by decide +kernel
theorem dX2_popInto_19 : decode cX2_popInto 19 = .ok (.aload_n 0, 1) := by decide +kernel
theorem dX2_popInto_20 : decode cX2_popInto 20 = .ok (.getfield 11, 3) := by decide +kernel
theorem dX2_popInto_23 : decode cX2_popInto 23 = .ok (.aload_n 0, 1) := by decide +kernel
theorem dX2_popInto_24 : decode cX2_popInto 24 = .ok (.getfield 18, 3) := by decide +kernel
theorem dX2_popInto_27 : decode cX2_popInto 27 = .ok (.aaload, 1) := by decide +kernel
theorem dX2_popInto_28 : decode cX2_popInto 28 = .ok (.invokevirtual 25, 3) := by decide +kernel
theorem dX2_popInto_31 : decode cX2_popInto 31 = .ok (.return_, 1) := by decide +kernel
theorem dX3_init_0 : decode cX3_init 0 = .ok (.aload_n 0, 1) := by decide +kernel
theorem dX3_init_1 : decode cX3_init 1 = .ok (.invokespecial 3, 3) := by decide +kernel
theorem dX3_init_4 : decode cX3_init 4 = .ok (.aload_n 0, 1) := by decide +kernel
theorem dX3_init_5 : decode cX3_init 5 = .ok (.bipush 60, 2) := by decide +kernel
theorem dX3_init_7 : decode cX3_init 7 = .ok (.newarray .char, 2) := by decide +kernel
theorem dX3_init_9 : decode cX3_init 9 = .ok (.putfield 9, 3) := by decide +kernel
theorem dX3_init_12 : decode cX3_init 12 = .ok (.aload_n 0, 1) := by decide +kernel
theorem dX3_init_13 : decode cX3_init 13 = .ok (.bipush 30, 2) := by decide +kernel
theorem dX3_init_15 : decode cX3_init 15 = .ok (.newarray .int, 2) := by decide +kernel
theorem dX3_init_17 : decode cX3_init 17 = .ok (.putfield 15, 3) := by decide +kernel
theorem dX3_init_20 : decode cX3_init 20 = .ok (.aload_n 0, 1) := by decide +kernel
theorem dX3_init_21 : decode cX3_init 21 = .ok (.bipush 30, 2) := by decide +kernel
theorem dX3_init_23 : decode cX3_init 23 = .ok (.newarray .int, 2) := by decide +kernel
theorem dX3_init_25 : decode cX3_init 25 = .ok (.putfield 19, 3) := by decide +kernel
theorem dX3_init_28 : decode cX3_init 28 = .ok (.return_, 1) := by decide +kernel
set_option maxRecDepth 20000 in
theorem ggX3_read_X3_noteRange : GoodIn wsX3_read wsX3_noteRange := goodIn_r _ [8, 1, 9, 10, 11, 12, 13, 14, 15] (by decide +kernel) (by decide +kernel)
set_option maxRecDepth 20000 in
theorem gX3_read_X3_noteRange : GoodIn wsX3_read (wsV RX3 29 RX3 yX3_noteRange wsX3_noteRange) := goodIn_app (goodIn_of _ (by decide +kernel)) ggX3_read_X3_noteRange
theorem dX3_read_0 : decode cX3_read 0 = .ok (.aload_n 0, 1) := by decide +kernel
theorem dX3_read_1 : decode cX3_read 1 = .ok (.iconst 0, 1) := by decide +kernel
theorem dX3_read_2 : decode cX3_read 2 = .ok (.putfield 22, 3) := by decide +kernel
theorem dX3_read_5 : decode cX3_read 5 = .ok (.iconst 0, 1) := by decide +kernel
theorem dX3_read_6 : decode cX3_read 6 = .ok (.istore_n 1, 1) := by decide +kernel
theorem dX3_read_7 : decode cX3_read 7 = .ok (.iconst 0, 1) := by decide +kernel
theorem dX3_read_8 : decode cX3_read 8 = .ok (.istore_n 2, 1) := by decide +kernel
theorem dX3_read_9 : decode cX3_read 9 = .ok (.iconst 0, 1) := by decide +kernel
theorem dX3_read_10 : decode cX3_read 10 = .ok (.istore_n 3, 1) := by decide +kernel
theorem dX3_read_11 : decode cX3_read 11 = .ok (.iconst 0, 1) := by decide +kernel
theorem dX3_read_12 : decode cX3_read 12 = .ok (.istore 4, 2) := by decide +kernel
theorem dX3_read_14 : decode cX3_read 14 = .ok (.iconst 0, 1) := by decide +kernel
theorem dX3_read_15 : decode cX3_read 15 = .ok (.istore 5, 2) := by decide +kernel
theorem dX3_read_17 : decode cX3_read 17 = .ok (.iload 5, 2) := by decide +kernel
theorem dX3_read_19 : decode cX3_read 19 = .ok (.aload_n 0, 1) := by decide +kernel
theorem dX3_read_20 : decode cX3_read 20 = .ok (.getfield 26, 3) := by decide +kernel
theorem dX3_read_23 : decode cX3_read 23 = .ok (.if_icmp .ge 133, 3) := by decide +kernel
theorem dX3_read_26 : decode cX3_read 26 = .ok (.aload_n 0, 1) := by decide +kernel
theorem dX3_read_27 : decode cX3_read 27 = .ok (.getfield 9, 3) := by decide +kernel
theorem dX3_read_30 : decode cX3_read 30 = .ok (.iload 5, 2) := by decide +kernel
theorem dX3_read_32 : decode cX3_read 32 = .ok (.caload, 1) := by decide +kernel
theorem dX3_read_33 : decode cX3_read 33 = .ok (.istore 6, 2) := by decide +kernel
theorem dX3_read_35 : decode cX3_read 35 = .ok (.iload 6, 2) := by decide +kernel
theorem dX3_read_37 : decode cX3_read 37 = .ok (.bipush 48, 2) := by decide +kernel
theorem dX3_read_39 : decode cX3_read 39 = .ok (.if_icmp .lt 44, 3) := by decide +kernel
theorem dX3_read_42 : decode cX3_read 42 = .ok (.iload 6, 2) := by decide +kernel
theorem dX3_read_44 : decode cX3_read 44 = .ok (.bipush 57, 2) := by decide +kernel
theorem dX3_read_46 : decode cX3_read 46 = .ok (.if_icmp .gt 37, 3) := by decide +kernel
theorem dX3_read_49 : decode cX3_read 49 = .ok (.iload_n 1, 1) := by decide +kernel
theorem dX3_read_50 : decode cX3_read 50 = .ok (.iconst 4, 1) := by decide +kernel
theorem dX3_read_51 : decode cX3_read 51 = .ok (.if_icmp .eq 12, 3) := by decide +kernel
theorem dX3_read_54 : decode cX3_read 54 = .ok (.iload_n 1, 1) := by decide +kernel
theorem dX3_read_55 : decode cX3_read 55 = .ok (.iconst 1, 1) := by decide +kernel
theorem dX3_read_56 : decode cX3_read 56 = .ok (.if_icmp .ne 10, 3) := by decide +kernel
theorem dX3_read_59 : decode cX3_read 59 = .ok (.iload_n 3, 1) := by decide +kernel
theorem dX3_read_60 : decode cX3_read 60 = .ok (.ifCond .ne 6, 3) := by decide +kernel
theorem dX3_read_63 : decode cX3_read 63 = .ok (.iload 5, 2) := by decide +kernel
theorem dX3_read_65 : decode cX3_read 65 = .ok (.ireturn, 1) := by decide +kernel
theorem dX3_read_66 : decode cX3_read 66 = .ok (.bipush 10, 2) := by decide +kernel
theorem dX3_read_68 : decode cX3_read 68 = .ok (.iload_n 3, 1) := by decide +kernel
theorem dX3_read_69 : decode cX3_read 69 = .ok (.imul, 1) := by decide +kernel
theorem dX3_read_70 : decode cX3_read 70 = .ok (.iload 6, 2) := by decide +kernel
theorem dX3_read_72 : decode cX3_read 72 = .ok (.bipush 48, 2) := by decide +kernel
theorem dX3_read_74 : decode cX3_read 74 = .ok (.isub, 1) := by decide +kernel
theorem dX3_read_75 : decode cX3_read 75 = .ok (.iadd, 1) := by decide +kernel
theorem dX3_read_76 : decode cX3_read 76 = .ok (.istore_n 3, 1) := by decide +kernel
theorem dX3_read_77 : decode cX3_read 77 = .ok (.iinc 1 1, 3) := by decide +kernel
theorem dX3_read_80 : decode cX3_read 80 = .ok (.goto 70, 3) := by decide +kernel
theorem dX3_read_83 : decode cX3_read 83 = .ok (.iload 6, 2) := by decide +kernel
theorem dX3_read_85 : decode cX3_read 85 = .ok (.bipush 45, 2) := by decide +kernel
theorem dX3_read_87 : decode cX3_read 87 = .ok (.if_icmp .ne 24, 3) := by decide +kernel
theorem dX3_read_90 : decode cX3_read 90 = .ok (.iload_n 1, 1) := by decide +kernel
theorem dX3_read_91 : decode cX3_read 91 = .ok (.ifCond .le 20, 3) := by decide +kernel
theorem dX3_read_94 : decode cX3_read 94 = .ok (.iload 4, 2) := by decide +kernel
theorem dX3_read_96 : decode cX3_read 96 = .ok (.ifCond .ne 15, 3) := by decide +kernel
theorem dX3_read_99 : decode cX3_read 99 = .ok (.iload_n 3, 1) := by decide +kernel
theorem dX3_read_100 : decode cX3_read 100 = .ok (.istore_n 2, 1) := by decide +kernel
theorem dX3_read_101 : decode cX3_read 101 = .ok (.iconst 1, 1) := by decide +kernel
theorem dX3_read_102 : decode cX3_read 102 = .ok (.istore 4, 2) := by decide +kernel
theorem dX3_read_104 : decode cX3_read 104 = .ok (.iconst 0, 1) := by decide +kernel
theorem dX3_read_105 : decode cX3_read 105 = .ok (.istore_n 3, 1) := by decide +kernel
theorem dX3_read_106 : decode cX3_read 106 = .ok (.iconst 0, 1) := by decide +kernel
theorem dX3_read_107 : decode cX3_read 107 = .ok (.istore_n 1, 1) := by decide +kernel
theorem dX3_read_108 : decode cX3_read 108 = .ok (.goto 42, 3) := by decide +kernel
theorem dX3_read_111 : decode cX3_read 111 = .ok (.iload 6, 2) := by decide +kernel
theorem dX3_read_113 : decode cX3_read 113 = .ok (.bipush 44, 2) := by decide +kernel
theorem dX3_read_115 : decode cX3_read 115 = .ok (.if_icmp .ne 32, 3) := by decide +kernel
theorem dX3_read_118 : decode cX3_read 118 = .ok (.iload_n 1, 1) := by decide +kernel
theorem dX3_read_119 : decode cX3_read 119 = .ok (.ifCond .le 28, 3) := by decide +kernel
theorem dX3_read_122 : decode cX3_read 122 = .ok (.aload_n 0, 1) := by decide +kernel
theorem dX3_read_123 : decode cX3_read 123 = .ok (.iload 4, 2) := by decide +kernel
theorem dX3_read_125 : decode cX3_read 125 = .ok (.ifCond .eq 7, 3) := by decide +kernel
theorem dX3_read_128 : decode cX3_read 128 = .ok (.iload_n 2, 1) := by decide +kernel
theorem dX3_read_129 : decode cX3_read 129 = .ok (.goto 4, 3) := by decide +kernel
theorem dX3_read_132 : decode cX3_read 132 = .ok (.iload_n 3, 1) := by decide +kernel
theorem dX3_read_133 : decode cX3_read 133 = .ok (.iload_n 3, 1) := by decide +kernel
theorem dX3_read_134 : decode cX3_read 134 = .ok (.invokevirtual 29, 3) := by decide +kernel
theorem dX3_read_137 : decode cX3_read 137 = .ok (.iconst 0, 1) := by decide +kernel
theorem dX3_read_138 : decode cX3_read 138 = .ok (.istore 4, 2) := by decide +kernel
theorem dX3_read_140 : decode cX3_read 140 = .ok (.iconst 0, 1) := by decide +kernel
theorem dX3_read_141 : decode cX3_read 141 = .ok (.istore_n 3, 1) := by decide +kernel
theorem dX3_read_142 : decode cX3_read 142 = .ok (.iconst 0, 1) := by decide +kernel
theorem dX3_read_143 : decode cX3_read 143 = .ok (.istore_n 1, 1) := by decide +kernel
theorem dX3_read_144 : decode cX3_read 144 = .ok (.goto 6, 3) := by decide +kernel
theorem dX3_read_147 : decode cX3_read 147 = .ok (.iload 5, 2) := by decide +kernel
theorem dX3_read_149 : decode cX3_read 149 = .ok (.ireturn, 1) := by decide +kernel
theorem dX3_read_150 : decode cX3_read 150 = .ok (.iinc 5 1, 3) := by decide +kernel
theorem dX3_read_153 : decode cX3_read 153 = .ok (.goto (-136), 3) := by decide +kernel
theorem dX3_read_156 : decode cX3_read 156 = .ok (.iload_n 1, 1) := by decide +kernel
theorem dX3_read_157 : decode cX3_read 157 = .ok (.ifCond .ne 8, 3) := by decide +kernel
theorem dX3_read_160 : decode cX3_read 160 = .ok (.aload_n 0, 1) := by decide +kernel
theorem dX3_read_161 : decode cX3_read 161 = .ok (.getfield 26, 3) := by decide +kernel
theorem dX3_read_164 : decode cX3_read 164 = .ok (.ireturn, 1) := by decide +kernel
theorem dX3_read_165 : decode cX3_read 165 = .ok (.aload_n 0, 1) := by decide +kernel
theorem dX3_read_166 : decode cX3_read 166 = .ok (.iload 4, 2) := by decide +kernel
theorem dX3_read_168 : decode cX3_read 168 = .ok (.ifCond .eq 7, 3) := by decide +kernel
theorem dX3_read_171 : decode cX3_read 171 = .ok (.iload_n 2, 1) := by decide +kernel
theorem dX3_read_172 : decode cX3_read 172 = .ok (.goto 4, 3) := by decide +kernel
theorem dX3_read_175 : decode cX3_read 175 = .ok (.iload_n 3, 1) := by decide +kernel
theorem dX3_read_176 : decode cX3_read 176 = .ok (.iload_n 3, 1) := by decide +kernel
theorem dX3_read_177 : decode cX3_read 177 = .ok (.invokevirtual 29, 3) := by decide +kernel
theorem dX3_read_180 : decode cX3_read 180 = .ok (.iconst (-1), 1) := by decide +kernel
theorem dX3_read_181 : decode cX3_read 181 = .ok (.ireturn, 1) := by decide +kernel
theorem dX3_noteRange_0 : decode cX3_noteRange 0 = .ok (.aload_n 0, 1) := by decide +kernel
theorem dX3_noteRange_1 : decode cX3_noteRange 1 = .ok (.getfield 22, 3) := by decide +kernel
theorem dX3_noteRange_4 : decode cX3_noteRange 4 = .ok (.bipush 30, 2) := by decide +kernel
theorem dX3_noteRange_6 : decode cX3_noteRange 6 = .ok (.if_icmp .ge 33, 3) := by decide +kernel
theorem dX3_noteRange_9 : decode cX3_noteRange 9 = .ok (.aload_n 0, 1) := by decide +kernel
theorem dX3_noteRange_10 : decode cX3_noteRange 10 = .ok (.getfield 15, 3) := by decide +kernel
theorem dX3_noteRange_13 : decode cX3_noteRange 13 = .ok (.aload_n 0, 1) := by decide +kernel
theorem dX3_noteRange_14 : decode cX3_noteRange 14 = .ok (.getfield 22, 3) := by decide +kernel
theorem dX3_noteRange_17 : decode cX3_noteRange 17 = .ok (.iload_n 1, 1) := by decide +kernel
theorem dX3_noteRange_18 : decode cX3_noteRange 18 = .ok (.iastore, 1) := by decide +kernel
theorem dX3_noteRange_19 : decode cX3_noteRange 19 = .ok (.aload_n 0, 1) := by decide +kernel
theorem dX3_noteRange_20 : decode cX3_noteRange 20 = .ok (.getfield 19, 3) := by decide +kernel
theorem dX3_noteRange_23 : decode cX3_noteRange 23 = .ok (.aload_n 0, 1) := by decide +kernel
theorem dX3_noteRange_24 : decode cX3_noteRange 24 = .ok (.getfield 22, 3) := by decide +kernel
theorem dX3_noteRange_27 : decode cX3_noteRange 27 = .ok (.iload_n 2, 1) := by decide +kernel
theorem dX3_noteRange_28 : decode cX3_noteRange 28 = .ok (.iastore, 1) := by decide +kernel
theorem dX3_noteRange_29 : decode cX3_noteRange 29 = .ok (.aload_n 0, 1) := by decide +kernel
theorem dX3_noteRange_30 : decode cX3_noteRange 30 = .ok (.dup, 1) := by decide +kernel
theorem dX3_noteRange_31 : decode cX3_noteRange 31 = .ok (.getfield 22, 3) := by decide +kernel
theorem dX3_noteRange_34 : decode cX3_noteRange 34 = .ok (.iconst 1, 1) := by decide +kernel
theorem dX3_noteRange_35 : decode cX3_noteRange 35 = .ok (.iadd, 1) := by decide +kernel
theorem dX3_noteRange_36 : decode cX3_noteRange 36 = .ok (.putfield 22, 3) := by decide +kernel
theorem dX3_noteRange_39 : decode cX3_noteRange 39 = .ok (.return_, 1) := by decide +kernel
set_option maxRecDepth 20000 in
theorem ggX3_hasGoodValues_X4_isNumber : GoodIn wsX3_hasGoodValues wsX4_isNumber := goodIn_r _ [6] (by decide +kernel) (by decide +kernel)
set_option maxRecDepth 20000 in
theorem gX3_hasGoodValues_X4_isNumber_n33 : GoodIn wsX3_hasGoodValues (wsX4_isNumber) := ggX3_hasGoodValues_X4_isNumber
theorem dX3_hasGoodValues_0 : decode cX3_hasGoodValues 0 = .ok (.iconst 0, 1) := by decide +kernel
theorem dX3_hasGoodValues_1 : decode cX3_hasGoodValues 1 = .ok (.istore_n 1, 1) := by decide +kernel
theorem dX3_hasGoodValues_2 : decode cX3_hasGoodValues 2 = .ok (.iload_n 1, 1) := by decide +kernel
theorem dX3_hasGoodValues_3 : decode cX3_hasGoodValues 3 = .ok (.aload_n 0, 1) := by decide +kernel
theorem dX3_hasGoodValues_4 : decode cX3_hasGoodValues 4 = .ok (.getfield 22, 3) := by decide +kernel
theorem dX3_hasGoodValues_7 : decode cX3_hasGoodValues 7 = .ok (.if_icmp .ge 50, 3) := by decide +kernel
theorem dX3_hasGoodValues_10 : decode cX3_hasGoodValues 10 = .ok (.aload_n 0, 1) := by decide +kernel
theorem dX3_hasGoodValues_11 : decode cX3_hasGoodValues 11 = .ok (.getfield 15, 3) := by decide +kernel
theorem dX3_hasGoodValues_14 : decode cX3_hasGoodValues 14 = .ok (.iload_n 1, 1) := by decide +kernel
theorem dX3_hasGoodValues_15 : decode cX3_hasGoodValues 15 = .ok (.iaload, 1) := by decide +kernel
theorem dX3_hasGoodValues_16 : decode cX3_hasGoodValues 16 = .ok (.invokestatic 33, 3) := by decide +kernel
theorem dX3_hasGoodValues_19 : decode cX3_hasGoodValues 19 = .ok (.ifCond .eq 30, 3) := by decide +kernel
theorem dX3_hasGoodValues_22 : decode cX3_hasGoodValues 22 = .ok (.aload_n 0, 1) := by decide +kernel
theorem dX3_hasGoodValues_23 : decode cX3_hasGoodValues 23 = .ok (.getfield 19, 3) := by decide +kernel
theorem dX3_hasGoodValues_26 : decode cX3_hasGoodValues 26 = .ok (.iload_n 1, 1) := by decide +kernel
theorem dX3_hasGoodValues_27 : decode cX3_hasGoodValues 27 = .ok (.iaload, 1) := by decide +kernel
theorem dX3_hasGoodValues_28 : decode cX3_hasGoodValues 28 = .ok (.invokestatic 33, 3) := by decide +kernel
theorem dX3_hasGoodValues_31 : decode cX3_hasGoodValues 31 = .ok (.ifCond .eq 18, 3) := by decide +kernel
theorem dX3_hasGoodValues_34 : decode cX3_hasGoodValues 34 = .ok (.aload_n 0, 1) := by decide +kernel
theorem dX3_hasGoodValues_35 : decode cX3_hasGoodValues 35 = .ok (.getfield 19, 3) := by decide +kernel
theorem dX3_hasGoodValues_38 : decode cX3_hasGoodValues 38 = .ok (.iload_n 1, 1) := by decide +kernel
theorem dX3_hasGoodValues_39 : decode cX3_hasGoodValues 39 = .ok (.iaload, 1) := by decide +kernel
theorem dX3_hasGoodValues_40 : decode cX3_hasGoodValues 40 = .ok (.aload_n 0, 1) := by decide +kernel
theorem dX3_hasGoodValues_41 : decode cX3_hasGoodValues 41 = .ok (.getfield 15, 3) := by decide +kernel
theorem dX3_hasGoodValues_44 : decode cX3_hasGoodValues 44 = .ok (.iload_n 1, 1) := by decide +kernel
theorem dX3_hasGoodValues_45 : decode cX3_hasGoodValues 45 = .ok (.iaload, 1) := by decide +kernel
theorem dX3_hasGoodValues_46 : decode cX3_hasGoodValues 46 = .ok (.if_icmp .ge 5, 3) := by decide +kernel
theorem dX3_hasGoodValues_49 : decode cX3_hasGoodValues 49 = .ok (.iconst 0, 1) := by decide +kernel
theorem dX3_hasGoodValues_50 : decode cX3_hasGoodValues 50 = .ok (.ireturn, 1) := by decide +kernel
theorem dX3_hasGoodValues_51 : decode cX3_hasGoodValues 51 = .ok (.iinc 1 1, 3) := by decide +kernel
theorem dX3_hasGoodValues_54 : decode cX3_hasGoodValues 54 = .ok (.goto (-52), 3) := by decide +kernel
theorem dX3_hasGoodValues_57 : decode cX3_hasGoodValues 57 = .ok (.iconst 1, 1) := by decide +kernel
theorem dX3_hasGoodValues_58 : decode cX3_hasGoodValues 58 = .ok (.ireturn, 1) := by decide +kernel
set_option maxRecDepth 20000 in
theorem ggX4_init_X1_init : GoodIn wsX4_init wsX1_init := goodIn_r _ [24, 25, 2, 3, 26, 27, 18, 19, 28, 29, 30, 31, 32, 33, 34, 35, 36, 37, 54, 55, 69, 70, 71, 72, 73, 74, 75] (by decide +kernel) (by decide +kernel)
set_option maxRecDepth 20000 in
theorem gX4_init_X1_init : GoodIn wsX4_init (wsX1_init) := ggX4_init_X1_init
set_option maxRecDepth 20000 in
theorem ggX4_init_X2_init : GoodIn wsX4_init wsX2_init := goodIn_r _ [40, 41, 2, 3, 42, 43, 5, 6, 44, 23, 24, 25, 26, 27, 18, 19, 28, 29, 30, 31, 32, 33, 34, 35, 36, 37, 62, 63, 54, 55, 69, 70, 71, 72, 73, 74, 75] (by decide +kernel) (by decide +kernel)
set_option maxRecDepth 20000 in
theorem gX4_init_X2_init : GoodIn wsX4_init (wsX2_init) := ggX4_init_X2_init
set_option maxRecDepth 20000 in
theorem ggX4_init_X3_init : GoodIn wsX4_init wsX3_init := goodIn_r _ [47, 48, 2, 3, 49, 50, 34, 51, 52, 64, 65, 66, 67, 68] (by decide +kernel) (by decide +kernel)
set_option maxRecDepth 20000 in
theorem gX4_init_X3_init : GoodIn wsX4_init (wsX3_init) := ggX4_init_X3_init
set_option maxRecDepth 20000 in
theorem ggX4_init_X0_init : GoodIn wsX4_init wsX0_init := goodIn_r _ [30, 31, 2, 3, 32, 33, 34, 35, 36, 37, 69, 70, 71, 72, 73, 74, 75] (by decide +kernel) (by decide +kernel)
set_option maxRecDepth 20000 in
theorem gX4_init_X0_init : GoodIn wsX4_init (wsX0_init) := ggX4_init_X0_init
theorem dJ13_bitCount_95d88_0 : decode cJ13_bitCount_95d88 0 = .ok (.lload_n 0, 1) := by decide +kernel
theorem dJ13_bitCount_95d88_1 : decode cJ13_bitCount_95d88 1 = .ok (.lload_n 0, 1) := by decide +kernel
theorem dJ13_bitCount_95d88_2 : decode cJ13_bitCount_95d88 2 = .ok (.iconst 1, 1) := by decide +kernel
theorem dJ13_bitCount_95d88_3 : decode cJ13_bitCount_95d88 3 = .ok (.lushr, 1) := by decide +kernel
theorem dJ13_bitCount_95d88_4 : decode cJ13_bitCount_95d88 4 = .ok (.ldc2_w 314, 3) := by decide +kernel
theorem dJ13_bitCount_95d88_7 : decode cJ13_bitCount_95d88 7 = .ok (.land, 1) := by decide +kernel
theorem dJ13_bitCount_95d88_8 : decode cJ13_bitCount_95d88 8 = .ok (.lsub, 1) := by decide +kernel
theorem dJ13_bitCount_95d88_9 : decode cJ13_bitCount_95d88 9 = .ok (.lstore_n 0, 1) := by decide +kernel
theorem dJ13_bitCount_95d88_10 : decode cJ13_bitCount_95d88 10 = .ok (.lload_n 0, 1) := by decide +kernel
theorem dJ13_bitCount_95d88_11 : decode cJ13_bitCount_95d88 11 = .ok (.ldc2_w 316, 3) := by decide +kernel
theorem dJ13_bitCount_95d88_14 : decode cJ13_bitCount_95d88 14 = .ok (.land, 1) := by decide +kernel
theorem dJ13_bitCount_95d88_15 : decode cJ13_bitCount_95d88 15 = .ok (.lload_n 0, 1) := by decide +kernel
theorem dJ13_bitCount_95d88_16 : decode cJ13_bitCount_95d88 16 = .ok (.iconst 2, 1) := by decide +kernel
theorem dJ13_bitCount_95d88_17 : decode cJ13_bitCount_95d88 17 = .ok (.lushr, 1) := by decide +kernel
theorem dJ13_bitCount_95d88_18 : decode cJ13_bitCount_95d88 18 = .ok (.ldc2_w 316, 3) := by decide +kernel
theorem dJ13_bitCount_95d88_21 : decode cJ13_bitCount_95d88 21 = .ok (.land, 1) := by decide +kernel
theorem dJ13_bitCount_95d88_22 : decode cJ13_bitCount_95d88 22 = .ok (.ladd, 1) := by decide +kernel
theorem dJ13_bitCount_95d88_23 : decode cJ13_bitCount_95d88 23 = .ok (.lstore_n 0, 1) := by decide +kernel
theorem dJ13_bitCount_95d88_24 : decode cJ13_bitCount_95d88 24 = .ok (.lload_n 0, 1) := by decide +kernel
theorem dJ13_bitCount_95d88_25 : decode cJ13_bitCount_95d88 25 = .ok (.lload_n 0, 1) := by decide +kernel
theorem dJ13_bitCount_95d88_26 : decode cJ13_bitCount_95d88 26 = .ok (.iconst 4, 1) := by decide +kernel
theorem dJ13_bitCount_95d88_27 : decode cJ13_bitCount_95d88 27 = .ok (.lushr, 1) := by decide +kernel
theorem dJ13_bitCount_95d88_28 : decode cJ13_bitCount_95d88 28 = .ok (.ladd, 1) := by decide +kernel
theorem dJ13_bitCount_95d88_29 : decode cJ13_bitCount_95d88 29 = .ok (.ldc2_w 318, 3) := by decide +kernel
theorem dJ13_bitCount_95d88_32 : decode cJ13_bitCount_95d88 32 = .ok (.land, 1) := by decide +kernel
theorem dJ13_bitCount_95d88_33 : decode cJ13_bitCount_95d88 33 = .ok (.lstore_n 0, 1) := by decide +kernel
theorem dJ13_bitCount_95d88_34 : decode cJ13_bitCount_95d88 34 = .ok (.lload_n 0, 1) := by decide +kernel
theorem dJ13_bitCount_95d88_35 : decode cJ13_bitCount_95d88 35 = .ok (.lload_n 0, 1) := by decide +kernel
theorem dJ13_bitCount_95d88_36 : decode cJ13_bitCount_95d88 36 = .ok (.bipush 8, 2) := by decide +kernel
theorem dJ13_bitCount_95d88_38 : decode cJ13_bitCount_95d88 38 = .ok (.lushr, 1) := by decide +kernel
theorem dJ13_bitCount_95d88_39 : decode cJ13_bitCount_95d88 39 = .ok (.ladd, 1) := by decide +kernel
theorem dJ13_bitCount_95d88_40 : decode cJ13_bitCount_95d88 40 = .ok (.lstore_n 0, 1) := by decide +kernel
theorem dJ13_bitCount_95d88_41 : decode cJ13_bitCount_95d88 41 = .ok (.lload_n 0, 1) := by decide +kernel
theorem dJ13_bitCount_95d88_42 : decode cJ13_bitCount_95d88 42 = .ok (.lload_n 0, 1) := by decide +kernel
theorem dJ13_bitCount_95d88_43 : decode cJ13_bitCount_95d88 43 = .ok (.bipush 16, 2) := by decide +kernel
theorem dJ13_bitCount_95d88_45 : decode cJ13_bitCount_95d88 45 = .ok (.lushr, 1) := by decide +kernel
theorem dJ13_bitCount_95d88_46 : decode cJ13_bitCount_95d88 46 = .ok (.ladd, 1) := by decide +kernel
theorem dJ13_bitCount_95d88_47 : decode cJ13_bitCount_95d88 47 = .ok (.lstore_n 0, 1) := by decide +kernel
theorem dJ13_bitCount_95d88_48 : decode cJ13_bitCount_95d88 48 = .ok (.lload_n 0, 1) := by decide +kernel
theorem dJ13_bitCount_95d88_49 : decode cJ13_bitCount_95d88 49 = .ok (.lload_n 0, 1) := by decide +kernel
theorem dJ13_bitCount_95d88_50 : decode cJ13_bitCount_95d88 50 = .ok (.bipush 32, 2) := by decide +kernel
theorem dJ13_bitCount_95d88_52 : decode cJ13_bitCount_95d88 52 = .ok (.lushr, 1) := by decide +kernel
theorem dJ13_bitCount_95d88_53 : decode cJ13_bitCount_95d88 53 = .ok (.ladd, 1) := by decide +kernel
theorem dJ13_bitCount_95d88_54 : decode cJ13_bitCount_95d88 54 = .ok (.lstore_n 0, 1) := by decide +kernel
theorem dJ13_bitCount_95d88_55 : decode cJ13_bitCount_95d88 55 = .ok (.lload_n 0, 1) := by decide +kernel
theorem dJ13_bitCount_95d88_56 : decode cJ13_bitCount_95d88 56 = .ok (.l2i, 1) := by decide +kernel
theorem dJ13_bitCount_95d88_57 : decode cJ13_bitCount_95d88 57 = .ok (.bipush 127, 2) := by decide +kernel
theorem dJ13_bitCount_95d88_59 : decode cJ13_bitCount_95d88 59 = .ok (.iand, 1) := by decide +kernel
theorem dJ13_bitCount_95d88_60 : decode cJ13_bitCount_95d88 60 = .ok (.ireturn, 1) := by decide +kernel
theorem dJ9_max_7cf53_0 : decode cJ9_max_7cf53 0 = .ok (.iload_n 0, 1) := by decide +kernel
theorem dJ9_max_7cf53_1 : decode cJ9_max_7cf53 1 = .ok (.iload_n 1, 1) := by decide +kernel
theorem dJ9_max_7cf53_2 : decode cJ9_max_7cf53 2 = .ok (.if_icmp .lt 7, 3) := by decide +kernel
theorem dJ9_max_7cf53_5 : decode cJ9_max_7cf53 5 = .ok (.iload_n 0, 1) := by decide +kernel
theorem dJ9_max_7cf53_6 : decode cJ9_max_7cf53 6 = .ok (.goto 4, 3) := by decide +kernel
theorem dJ9_max_7cf53_9 : decode cJ9_max_7cf53 9 = .ok (.iload_n 1, 1) := by decide +kernel
theorem dJ9_max_7cf53_10 : decode cJ9_max_7cf53 10 = .ok (.ireturn, 1) := by decide +kernel
theorem dJ9_min_7cf53_0 : decode cJ9_min_7cf53 0 = .ok (.iload_n 0, 1) := by decide +kernel
theorem dJ9_min_7cf53_1 : decode cJ9_min_7cf53 1 = .ok (.iload_n 1, 1) := by decide +kernel
theorem dJ9_min_7cf53_2 : decode cJ9_min_7cf53 2 = .ok (.if_icmp .gt 7, 3) := by decide +kernel
theorem dJ9_min_7cf53_5 : decode cJ9_min_7cf53 5 = .ok (.iload_n 0, 1) := by decide +kernel
theorem dJ9_min_7cf53_6 : decode cJ9_min_7cf53 6 = .ok (.goto 4, 3) := by decide +kernel
theorem dJ9_min_7cf53_9 : decode cJ9_min_7cf53 9 = .ok (.iload_n 1, 1) := by decide +kernel
theorem dJ9_min_7cf53_10 : decode cJ9_min_7cf53 10 = .ok (.ireturn, 1) := by decide +kernel
theorem dJ7_fill_d0a16_0 : decode cJ7_fill_d0a16 0 = .ok (.iconst 0, 1) := by decide +kernel
theorem dJ7_fill_d0a16_1 : decode cJ7_fill_d0a16 1 = .ok (.istore_n 3, 1) := by decide +kernel
theorem dJ7_fill_d0a16_2 : decode cJ7_fill_d0a16 2 = .ok (.aload_n 0, 1) := by decide +kernel
theorem dJ7_fill_d0a16_3 : decode cJ7_fill_d0a16 3 = .ok (.arraylength, 1) := by decide +kernel
theorem dJ7_fill_d0a16_4 : decode cJ7_fill_d0a16 4 = .ok (.istore 4, 2) := by decide +kernel
theorem dJ7_fill_d0a16_6 : decode cJ7_fill_d0a16 6 = .ok (.iload_n 3, 1) := by decide +kernel
theorem dJ7_fill_d0a16_7 : decode cJ7_fill_d0a16 7 = .ok (.iload 4, 2) := by decide +kernel
theorem dJ7_fill_d0a16_9 : decode cJ7_fill_d0a16 9 = .ok (.if_icmp .ge 13, 3) := by decide +kernel
theorem dJ7_fill_d0a16_12 : decode cJ7_fill_d0a16 12 = .ok (.aload_n 0, 1) := by decide +kernel
theorem dJ7_fill_d0a16_13 : decode cJ7_fill_d0a16 13 = .ok (.iload_n 3, 1) := by decide +kernel
theorem dJ7_fill_d0a16_14 : decode cJ7_fill_d0a16 14 = .ok (.lload_n 1, 1) := by decide +kernel
theorem dJ7_fill_d0a16_15 : decode cJ7_fill_d0a16 15 = .ok (.lastore, 1) := by decide +kernel
theorem dJ7_fill_d0a16_16 : decode cJ7_fill_d0a16 16 = .ok (.iinc 3 1, 3) := by decide +kernel
theorem dJ7_fill_d0a16_19 : decode cJ7_fill_d0a16 19 = .ok (.goto (-13), 3) := by decide +kernel
theorem dJ7_fill_d0a16_22 : decode cJ7_fill_d0a16 22 = .ok (.return_, 1) := by decide +kernel
theorem dJ7_fill_53178_0 : decode cJ7_fill_53178 0 = .ok (.iconst 0, 1) := by decide +kernel
theorem dJ7_fill_53178_1 : decode cJ7_fill_53178 1 = .ok (.istore_n 2, 1) := by decide +kernel
theorem dJ7_fill_53178_2 : decode cJ7_fill_53178 2 = .ok (.aload_n 0, 1) := by decide +kernel
theorem dJ7_fill_53178_3 : decode cJ7_fill_53178 3 = .ok (.arraylength, 1) := by decide +kernel
theorem dJ7_fill_53178_4 : decode cJ7_fill_53178 4 = .ok (.istore_n 3, 1) := by decide +kernel
theorem dJ7_fill_53178_5 : decode cJ7_fill_53178 5 = .ok (.iload_n 2, 1) := by decide +kernel
theorem dJ7_fill_53178_6 : decode cJ7_fill_53178 6 = .ok (.iload_n 3, 1) := by decide +kernel
theorem dJ7_fill_53178_7 : decode cJ7_fill_53178 7 = .ok (.if_icmp .ge 13, 3) := by decide +kernel
theorem dJ7_fill_53178_10 : decode cJ7_fill_53178 10 = .ok (.aload_n 0, 1) := by decide +kernel
theorem dJ7_fill_53178_11 : decode cJ7_fill_53178 11 = .ok (.iload_n 2, 1) := by decide +kernel
theorem dJ7_fill_53178_12 : decode cJ7_fill_53178 12 = .ok (.iload_n 1, 1) := by decide +kernel
theorem dJ7_fill_53178_13 : decode cJ7_fill_53178 13 = .ok (.iastore, 1) := by decide +kernel
theorem dJ7_fill_53178_14 : decode cJ7_fill_53178 14 = .ok (.iinc 2 1, 3) := by decide +kernel
theorem dJ7_fill_53178_17 : decode cJ7_fill_53178 17 = .ok (.goto (-12), 3) := by decide +kernel
theorem dJ7_fill_53178_20 : decode cJ7_fill_53178 20 = .ok (.return_, 1) := by decide +kernel
theorem dX4_isNumber_0 : decode cX4_isNumber 0 = .ok (.iload_n 0, 1) := by decide +kernel
theorem dX4_isNumber_1 : decode cX4_isNumber 1 = .ok (.ifCond .lt 14, 3) := by decide +kernel
theorem dX4_isNumber_4 : decode cX4_isNumber 4 = .ok (.iload_n 0, 1) := by decide +kernel
theorem dX4_isNumber_5 : decode cX4_isNumber 5 = .ok (.sipush 2048, 3) := by decide +kernel
theorem dX4_isNumber_8 : decode cX4_isNumber 8 = .ok (.if_icmp .ge 7, 3) := by decide +kernel
theorem dX4_isNumber_11 : decode cX4_isNumber 11 = .ok (.iconst 1, 1) := by decide +kernel
theorem dX4_isNumber_12 : decode cX4_isNumber 12 = .ok (.goto 4, 3) := by decide +kernel
theorem dX4_isNumber_15 : decode cX4_isNumber 15 = .ok (.iconst 0, 1) := by decide +kernel
theorem dX4_isNumber_16 : decode cX4_isNumber 16 = .ok (.ireturn, 1) := by decide +kernel
theorem dX4_join_0 : decode cX4_join 0 = .ok (.iload_n 0, 1) := by decide +kernel
theorem dX4_join_1 : decode cX4_join 1 = .ok (.tableswitch 43 0 2 #[27, 31, 35], 27) := by decide +kernel
theorem dX4_join_28 : decode cX4_join 28 = .ok (.lload_n 1, 1) := by decide +kernel
theorem dX4_join_29 : decode cX4_join 29 = .ok (.lload_n 3, 1) := by decide +kernel
theorem dX4_join_30 : decode cX4_join 30 = .ok (.lor, 1) := by decide +kernel
theorem dX4_join_31 : decode cX4_join 31 = .ok (.lreturn, 1) := by decide +kernel
theorem dX4_join_32 : decode cX4_join 32 = .ok (.lload_n 1, 1) := by decide +kernel
theorem dX4_join_33 : decode cX4_join 33 = .ok (.lload_n 3, 1) := by decide +kernel
theorem dX4_join_34 : decode cX4_join 34 = .ok (.land, 1) := by decide +kernel
theorem dX4_join_35 : decode cX4_join 35 = .ok (.lreturn, 1) := by decide +kernel
theorem dX4_join_36 : decode cX4_join 36 = .ok (.lload_n 1, 1) := by decide +kernel
theorem dX4_join_37 : decode cX4_join 37 = .ok (.lload_n 3, 1) := by decide +kernel
theorem dX4_join_38 : decode cX4_join 38 = .ok (.ldc2_w 217, 3) := by decide +kernel
theorem dX4_join_41 : decode cX4_join 41 = .ok (.lxor, 1) := by decide +kernel
theorem dX4_join_42 : decode cX4_join 42 = .ok (.land, 1) := by decide +kernel
theorem dX4_join_43 : decode cX4_join 43 = .ok (.lreturn, 1) := by decide +kernel
theorem dX4_join_44 : decode cX4_join 44 = .ok (.lload_n 1, 1) := by decide +kernel
theorem dX4_join_45 : decode cX4_join 45 = .ok (.lload_n 3, 1) := by decide +kernel
theorem dX4_join_46 : decode cX4_join 46 = .ok (.lxor, 1) := by decide +kernel
theorem dX4_join_47 : decode cX4_join 47 = .ok (.lreturn, 1) := by decide +kernel
end
section
theorem dX4_init_0 : decode cX4_init 0 = .ok (.aload_n 0, 1) := by decide +kernel
theorem dX4_init_1 : decode cX4_init 1 = .ok (.invokespecial 1, 3) := by decide +kernel
theorem dX4_init_4 : decode cX4_init 4 = .ok (.aload_n 0, 1) := by decide +kernel
theorem dX4_init_5 : decode cX4_init 5 = .ok (.new 7, 3) := by decide +kernel
theorem dX4_init_8 : decode cX4_init 8 = .ok (.dup, 1) := by decide +kernel
theorem dX4_init_9 : decode cX4_init 9 = .ok (.invokespecial 9, 3) := by decide +kernel
theorem dX4_init_12 : decode cX4_init 12 = .ok (.putfield 10, 3) := by decide +kernel
theorem dX4_init_15 : decode cX4_init 15 = .ok (.aload_n 0, 1) := by decide +kernel
theorem dX4_init_16 : decode cX4_init 16 = .ok (.new 7, 3) := by decide +kernel
theorem dX4_init_19 : decode cX4_init 19 = .ok (.dup, 1) := by decide +kernel
theorem dX4_init_20 : decode cX4_init 20 = .ok (.invokespecial 9, 3) := by decide +kernel
theorem dX4_init_23 : decode cX4_init 23 = .ok (.putfield 16, 3) := by decide +kernel
theorem dX4_init_26 : decode cX4_init 26 = .ok (.aload_n 0, 1) := by decide +kernel
theorem dX4_init_27 : decode cX4_init 27 = .ok (.new 19, 3) := by decide +kernel
theorem dX4_init_30 : decode cX4_init 30 = .ok (.dup, 1) := by decide +kernel
theorem dX4_init_31 : decode cX4_init 31 = .ok (.invokespecial 21, 3) := by decide +kernel
theorem dX4_init_34 : decode cX4_init 34 = .ok (.putfield 22, 3) := by decide +kernel
theorem dX4_init_37 : decode cX4_init 37 = .ok (.aload_n 0, 1) := by decide +kernel
theorem dX4_init_38 : decode cX4_init 38 = .ok (.new 26, 3) := by decide +kernel
theorem dX4_init_41 : decode cX4_init 41 = .ok (.dup, 1) := by decide +kernel
theorem dX4_init_42 : decode cX4_init 42 = .ok (.invokespecial 28, 3) := by decide +kernel
theorem dX4_init_45 : decode cX4_init 45 = .ok (.putfield 29, 3) := by decide +kernel
theorem dX4_init_48 : decode cX4_init 48 = .ok (.aload_n 0, 1) := by decide +kernel
theorem dX4_init_49 : decode cX4_init 49 = .ok (.new 33, 3) := by decide +kernel
theorem dX4_init_52 : decode cX4_init 52 = .ok (.dup, 1) := by decide +kernel
theorem dX4_init_53 : decode cX4_init 53 = .ok (.invokespecial 35, 3) := by decide +kernel
theorem dX4_init_56 : decode cX4_init 56 = .ok (.putfield 36, 3) := by decide +kernel
theorem dX4_init_59 : decode cX4_init 59 = .ok (.aload_n 0, 1) := by decide +kernel
theorem dX4_init_60 : decode cX4_init 60 = .ok (.iconst 0, 1) := by decide +kernel
theorem dX4_init_61 : decode cX4_init 61 = .ok (.putfield 40, 3) := by decide +kernel
theorem dX4_init_64 : decode cX4_init 64 = .ok (.return_, 1) := by decide +kernel
set_option maxRecDepth 20000 in
theorem ggX4_newSet_X2_push : GoodIn wsX4_newSet wsX2_push := goodIn_r _ [8, 9, 10, 11, 12, 13, 7, 14, 15, 16, 17, 18, 19, 20, 21, 22, 23, 24, 25, 26, 27, 28, 29, 30, 31, 32, 33, 34, 35, 36, 37, 65, 66, 63, 64, 67, 68, 69, 70, 71, 72, 73] (by decide +kernel) (by decide +kernel)
set_option maxRecDepth 20000 in
theorem gX4_newSet_X2_push : GoodIn wsX4_newSet (wsV RX4 48 RX2 yX2_push wsX2_push) := goodIn_app (goodIn_of _ (by decide +kernel)) ggX4_newSet_X2_push
set_option maxRecDepth 20000 in
theorem ggX4_newSet_X1_open : GoodIn wsX4_newSet wsX1_open := goodIn_r _ [41, 20, 21, 42, 43, 44, 25, 45, 35, 36, 37, 46, 47, 48, 49, 27, 32, 33, 34, 50, 51, 52, 53, 54, 55, 56, 63, 64, 67, 68, 69, 70, 71, 72, 73] (by decide +kernel) (by decide +kernel)
set_option maxRecDepth 20000 in
theorem gX4_newSet_X1_open : GoodIn wsX4_newSet (wsV RX4 52 RX1 yX1_open wsX1_open) := goodIn_app (goodIn_of _ (by decide +kernel)) ggX4_newSet_X1_open
theorem dX4_newSet_0 : decode cX4_newSet 0 = .ok (.iload_n 1, 1) := by decide +kernel
theorem dX4_newSet_1 : decode cX4_newSet 1 = .ok (.ifCond .lt 10, 3) := by decide +kernel
theorem dX4_newSet_4 : decode cX4_newSet 4 = .ok (.iload_n 1, 1) := by decide +kernel
theorem dX4_newSet_5 : decode cX4_newSet 5 = .ok (.sipush 9999, 3) := by decide +kernel
theorem dX4_newSet_8 : decode cX4_newSet 8 = .ok (.if_icmp .le 6, 3) := by decide +kernel
theorem dX4_newSet_11 : decode cX4_newSet 11 = .ok (.bipush (-2), 2) := by decide +kernel
theorem dX4_newSet_13 : decode cX4_newSet 13 = .ok (.ireturn, 1) := by decide +kernel
theorem dX4_newSet_14 : decode cX4_newSet 14 = .ok (.aload_n 0, 1) := by decide +kernel
theorem dX4_newSet_15 : decode cX4_newSet 15 = .ok (.getfield 10, 3) := by decide +kernel
theorem dX4_newSet_18 : decode cX4_newSet 18 = .ok (.getfield 44, 3) := by decide +kernel
theorem dX4_newSet_21 : decode cX4_newSet 21 = .ok (.bipush 6, 2) := by decide +kernel
theorem dX4_newSet_23 : decode cX4_newSet 23 = .ok (.if_icmp .lt 6, 3) := by decide +kernel
theorem dX4_newSet_26 : decode cX4_newSet 26 = .ok (.bipush (-3), 2) := by decide +kernel
theorem dX4_newSet_28 : decode cX4_newSet 28 = .ok (.ireturn, 1) := by decide +kernel
theorem dX4_newSet_29 : decode cX4_newSet 29 = .ok (.aload_n 0, 1) := by decide +kernel
theorem dX4_newSet_30 : decode cX4_newSet 30 = .ok (.getfield 22, 3) := by decide +kernel
theorem dX4_newSet_33 : decode cX4_newSet 33 = .ok (.aload_n 0, 1) := by decide +kernel
theorem dX4_newSet_34 : decode cX4_newSet 34 = .ok (.getfield 10, 3) := by decide +kernel
theorem dX4_newSet_37 : decode cX4_newSet 37 = .ok (.invokevirtual 48, 3) := by decide +kernel
theorem dX4_newSet_40 : decode cX4_newSet 40 = .ok (.aload_n 0, 1) := by decide +kernel
theorem dX4_newSet_41 : decode cX4_newSet 41 = .ok (.getfield 10, 3) := by decide +kernel
theorem dX4_newSet_44 : decode cX4_newSet 44 = .ok (.iload_n 1, 1) := by decide +kernel
theorem dX4_newSet_45 : decode cX4_newSet 45 = .ok (.invokevirtual 52, 3) := by decide +kernel
theorem dX4_newSet_48 : decode cX4_newSet 48 = .ok (.ireturn, 1) := by decide +kernel
set_option maxRecDepth 20000 in
theorem ggX4_pay_X4_isSet : GoodIn wsX4_pay wsX4_isSet := goodIn_r _ [9, 1, 10, 45, 46, 47, 48, 49, 50, 51, 52] (by decide +kernel) (by decide +kernel)
set_option maxRecDepth 20000 in
theorem gX4_pay_X4_isSet : GoodIn wsX4_pay (wsV RX4 56 RX4 yX4_isSet wsX4_isSet) := goodIn_app (goodIn_of _ (by decide +kernel)) ggX4_pay_X4_isSet
set_option maxRecDepth 20000 in
theorem ggX4_pay_X2_push : GoodIn wsX4_pay wsX2_push := goodIn_r _ [15, 16, 17, 18, 19, 20, 14, 21, 22, 23, 24, 25, 26, 27, 28, 29, 30, 31, 32, 33, 34, 35, 36, 37, 38, 39, 40, 41, 42, 43, 44, 60, 61, 51, 52, 53, 54, 55, 56, 57, 58, 59] (by decide +kernel) (by decide +kernel)
set_option maxRecDepth 20000 in
theorem gX4_pay_X2_push : GoodIn wsX4_pay (wsV RX4 48 RX2 yX2_push wsX2_push) := goodIn_app (goodIn_of _ (by decide +kernel)) ggX4_pay_X2_push
theorem dX4_pay_0 : decode cX4_pay 0 = .ok (.aload_n 0, 1) := by decide +kernel
theorem dX4_pay_1 : decode cX4_pay 1 = .ok (.iload_n 1, 1) := by decide +kernel
theorem dX4_pay_2 : decode cX4_pay 2 = .ok (.invokevirtual 56, 3) := by decide +kernel
theorem dX4_pay_5 : decode cX4_pay 5 = .ok (.ifCond .ne 5, 3) := by decide +kernel
theorem dX4_pay_8 : decode cX4_pay 8 = .ok (.iconst (-1), 1) := by decide +kernel
theorem dX4_pay_9 : decode cX4_pay 9 = .ok (.ireturn, 1) := by decide +kernel
theorem dX4_pay_10 : decode cX4_pay 10 = .ok (.iload_n 2, 1) := by decide +kernel
theorem dX4_pay_11 : decode cX4_pay 11 = .ok (.iconst 1, 1) := by decide +kernel
theorem dX4_pay_12 : decode cX4_pay 12 = .ok (.if_icmp .lt 10, 3) := by decide +kernel
theorem dX4_pay_15 : decode cX4_pay 15 = .ok (.iload_n 2, 1) := by decide +kernel
theorem dX4_pay_16 : decode cX4_pay 16 = .ok (.sipush 9999, 3) := by decide +kernel
theorem dX4_pay_19 : decode cX4_pay 19 = .ok (.if_icmp .le 6, 3) := by decide +kernel
theorem dX4_pay_22 : decode cX4_pay 22 = .ok (.bipush (-2), 2) := by decide +kernel
theorem dX4_pay_24 : decode cX4_pay 24 = .ok (.ireturn, 1) := by decide +kernel
theorem dX4_pay_25 : decode cX4_pay 25 = .ok (.aload_n 0, 1) := by decide +kernel
theorem dX4_pay_26 : decode cX4_pay 26 = .ok (.getfield 10, 3) := by decide +kernel
theorem dX4_pay_29 : decode cX4_pay 29 = .ok (.getfield 60, 3) := by decide +kernel
theorem dX4_pay_32 : decode cX4_pay 32 = .ok (.iload_n 1, 1) := by decide +kernel
theorem dX4_pay_33 : decode cX4_pay 33 = .ok (.aaload, 1) := by decide +kernel
theorem dX4_pay_34 : decode cX4_pay 34 = .ok (.astore_n 3, 1) := by decide +kernel
theorem dX4_pay_35 : decode cX4_pay 35 = .ok (.aload_n 3, 1) := by decide +kernel
theorem dX4_pay_36 : decode cX4_pay 36 = .ok (.getfield 64, 3) := by decide +kernel
theorem dX4_pay_39 : decode cX4_pay 39 = .ok (.iload_n 2, 1) := by decide +kernel
theorem dX4_pay_40 : decode cX4_pay 40 = .ok (.iadd, 1) := by decide +kernel
theorem dX4_pay_41 : decode cX4_pay 41 = .ok (.sipush 9999, 3) := by decide +kernel
theorem dX4_pay_44 : decode cX4_pay 44 = .ok (.if_icmp .le 6, 3) := by decide +kernel
theorem dX4_pay_47 : decode cX4_pay 47 = .ok (.bipush (-3), 2) := by decide +kernel
theorem dX4_pay_49 : decode cX4_pay 49 = .ok (.ireturn, 1) := by decide +kernel
theorem dX4_pay_50 : decode cX4_pay 50 = .ok (.aload_n 0, 1) := by decide +kernel
theorem dX4_pay_51 : decode cX4_pay 51 = .ok (.getfield 22, 3) := by decide +kernel
theorem dX4_pay_54 : decode cX4_pay 54 = .ok (.aload_n 0, 1) := by decide +kernel
theorem dX4_pay_55 : decode cX4_pay 55 = .ok (.getfield 10, 3) := by decide +kernel
theorem dX4_pay_58 : decode cX4_pay 58 = .ok (.invokevirtual 48, 3) := by decide +kernel
theorem dX4_pay_61 : decode cX4_pay 61 = .ok (.aload_n 3, 1) := by decide +kernel
theorem dX4_pay_62 : decode cX4_pay 62 = .ok (.dup, 1) := by decide +kernel
theorem dX4_pay_63 : decode cX4_pay 63 = .ok (.getfield 64, 3) := by decide +kernel
theorem dX4_pay_66 : decode cX4_pay 66 = .ok (.iload_n 2, 1) := by decide +kernel
theorem dX4_pay_67 : decode cX4_pay 67 = .ok (.iadd, 1) := by decide +kernel
theorem dX4_pay_68 : decode cX4_pay 68 = .ok (.putfield 64, 3) := by decide +kernel
theorem dX4_pay_71 : decode cX4_pay 71 = .ok (.aload_n 3, 1) := by decide +kernel
theorem dX4_pay_72 : decode cX4_pay 72 = .ok (.getfield 64, 3) := by decide +kernel
theorem dX4_pay_75 : decode cX4_pay 75 = .ok (.ireturn, 1) := by decide +kernel
set_option maxRecDepth 20000 in
theorem ggX4_sail_X4_isSet : GoodIn wsX4_sail wsX4_isSet := goodIn_r _ [9, 1, 10, 53, 54, 55, 56, 57, 58, 59, 60] (by decide +kernel) (by decide +kernel)
set_option maxRecDepth 20000 in
theorem gX4_sail_X4_isSet : GoodIn wsX4_sail (wsV RX4 56 RX4 yX4_isSet wsX4_isSet) := goodIn_app (goodIn_of _ (by decide +kernel)) ggX4_sail_X4_isSet
set_option maxRecDepth 20000 in
theorem ggX4_sail_X2_push : GoodIn wsX4_sail wsX2_push := goodIn_r _ [15, 16, 17, 18, 19, 20, 14, 21, 22, 23, 24, 25, 26, 27, 28, 29, 30, 31, 32, 33, 34, 35, 36, 37, 38, 39, 40, 41, 42, 43, 44, 68, 69, 59, 60, 61, 62, 63, 64, 65, 66, 67] (by decide +kernel) (by decide +kernel)
set_option maxRecDepth 20000 in
theorem gX4_sail_X2_push : GoodIn wsX4_sail (wsV RX4 48 RX2 yX2_push wsX2_push) := goodIn_app (goodIn_of _ (by decide +kernel)) ggX4_sail_X2_push
set_option maxRecDepth 20000 in
theorem ggX4_sail_X0_boats : GoodIn wsX4_sail wsX0_boats := goodIn_r _ [48, 49, 50, 51, 32, 52, 40, 39, 61, 62, 63, 64, 65, 66, 67] (by decide +kernel) (by decide +kernel)
set_option maxRecDepth 20000 in
theorem gX4_sail_X0_boats : GoodIn wsX4_sail (wsV RX4 70 RX0 yX0_boats wsX0_boats) := goodIn_app (goodIn_of _ (by decide +kernel)) ggX4_sail_X0_boats
theorem dX4_sail_0 : decode cX4_sail 0 = .ok (.aload_n 0, 1) := by decide +kernel
theorem dX4_sail_1 : decode cX4_sail 1 = .ok (.iload_n 1, 1) := by decide +kernel
theorem dX4_sail_2 : decode cX4_sail 2 = .ok (.invokevirtual 56, 3) := by decide +kernel
theorem dX4_sail_5 : decode cX4_sail 5 = .ok (.ifCond .ne 5, 3) := by decide +kernel
theorem dX4_sail_8 : decode cX4_sail 8 = .ok (.iconst (-1), 1) := by decide +kernel
theorem dX4_sail_9 : decode cX4_sail 9 = .ok (.ireturn, 1) := by decide +kernel
theorem dX4_sail_10 : decode cX4_sail 10 = .ok (.aload_n 0, 1) := by decide +kernel
theorem dX4_sail_11 : decode cX4_sail 11 = .ok (.getfield 10, 3) := by decide +kernel
theorem dX4_sail_14 : decode cX4_sail 14 = .ok (.getfield 60, 3) := by decide +kernel
theorem dX4_sail_17 : decode cX4_sail 17 = .ok (.iload_n 1, 1) := by decide +kernel
theorem dX4_sail_18 : decode cX4_sail 18 = .ok (.aaload, 1) := by decide +kernel
theorem dX4_sail_19 : decode cX4_sail 19 = .ok (.astore_n 2, 1) := by decide +kernel
theorem dX4_sail_20 : decode cX4_sail 20 = .ok (.aload_n 2, 1) := by decide +kernel
theorem dX4_sail_21 : decode cX4_sail 21 = .ok (.getfield 67, 3) := by decide +kernel
theorem dX4_sail_24 : decode cX4_sail 24 = .ok (.ifCond .eq 6, 3) := by decide +kernel
theorem dX4_sail_27 : decode cX4_sail 27 = .ok (.bipush (-5), 2) := by decide +kernel
theorem dX4_sail_29 : decode cX4_sail 29 = .ok (.ireturn, 1) := by decide +kernel
theorem dX4_sail_30 : decode cX4_sail 30 = .ok (.aload_n 0, 1) := by decide +kernel
theorem dX4_sail_31 : decode cX4_sail 31 = .ok (.getfield 22, 3) := by decide +kernel
theorem dX4_sail_34 : decode cX4_sail 34 = .ok (.aload_n 0, 1) := by decide +kernel
theorem dX4_sail_35 : decode cX4_sail 35 = .ok (.getfield 10, 3) := by decide +kernel
theorem dX4_sail_38 : decode cX4_sail 38 = .ok (.invokevirtual 48, 3) := by decide +kernel
theorem dX4_sail_41 : decode cX4_sail 41 = .ok (.aload_n 2, 1) := by decide +kernel
theorem dX4_sail_42 : decode cX4_sail 42 = .ok (.iconst 1, 1) := by decide +kernel
theorem dX4_sail_43 : decode cX4_sail 43 = .ok (.putfield 67, 3) := by decide +kernel
theorem dX4_sail_46 : decode cX4_sail 46 = .ok (.aload_n 2, 1) := by decide +kernel
theorem dX4_sail_47 : decode cX4_sail 47 = .ok (.invokevirtual 70, 3) := by decide +kernel
theorem dX4_sail_50 : decode cX4_sail 50 = .ok (.ireturn, 1) := by decide +kernel
set_option maxRecDepth 20000 in
theorem ggX4_dock_X4_isSet : GoodIn wsX4_dock wsX4_isSet := goodIn_r _ [8, 2, 9, 68, 69, 70, 71, 72, 73, 74, 75] (by decide +kernel) (by decide +kernel)
set_option maxRecDepth 20000 in
theorem gX4_dock_X4_isSet : GoodIn wsX4_dock (wsV RX4 56 RX4 yX4_isSet wsX4_isSet) := goodIn_app (goodIn_of _ (by decide +kernel)) ggX4_dock_X4_isSet
set_option maxRecDepth 20000 in
theorem ggX4_dock_X2_push : GoodIn wsX4_dock wsX2_push := goodIn_r _ [14, 15, 16, 17, 18, 19, 13, 20, 21, 22, 23, 24, 25, 26, 27, 28, 29, 30, 31, 32, 33, 34, 35, 36, 37, 38, 39, 40, 41, 42, 43, 76, 77, 74, 75, 78, 79, 80, 81, 82, 83, 84] (by decide +kernel) (by decide +kernel)
set_option maxRecDepth 20000 in
theorem gX4_dock_X2_push : GoodIn wsX4_dock (wsV RX4 48 RX2 yX2_push wsX2_push) := goodIn_app (goodIn_of _ (by decide +kernel)) ggX4_dock_X2_push
set_option maxRecDepth 20000 in
theorem ggX4_dock_X0_enterHarbour : GoodIn wsX4_dock wsX0_enterHarbour := goodIn_r _ [47, 43, 48, 49, 50, 31, 51, 38, 52, 53, 54, 55, 56, 57, 58, 59, 39, 40, 60, 61, 62, 63, 64, 65, 66, 67, 41, 42, 78, 79, 80, 81, 82, 83, 84] (by decide +kernel) (by decide +kernel)
set_option maxRecDepth 20000 in
theorem gX4_dock_X0_enterHarbour : GoodIn wsX4_dock (wsV RX4 74 RX0 yX0_enterHarbour wsX0_enterHarbour) := goodIn_app (goodIn_of _ (by decide +kernel)) ggX4_dock_X0_enterHarbour
theorem dX4_dock_0 : decode cX4_dock 0 = .ok (.aload_n 0, 1) := by decide +kernel
theorem dX4_dock_1 : decode cX4_dock 1 = .ok (.iload_n 1, 1) := by decide +kernel
theorem dX4_dock_2 : decode cX4_dock 2 = .ok (.invokevirtual 56, 3) := by decide +kernel
theorem dX4_dock_5 : decode cX4_dock 5 = .ok (.ifCond .ne 5, 3) := by decide +kernel
theorem dX4_dock_8 : decode cX4_dock 8 = .ok (.iconst (-1), 1) := by decide +kernel
theorem dX4_dock_9 : decode cX4_dock 9 = .ok (.ireturn, 1) := by decide +kernel
theorem dX4_dock_10 : decode cX4_dock 10 = .ok (.aload_n 0, 1) := by decide +kernel
theorem dX4_dock_11 : decode cX4_dock 11 = .ok (.getfield 22, 3) := by decide +kernel
theorem dX4_dock_14 : decode cX4_dock 14 = .ok (.aload_n 0, 1) := by decide +kernel
theorem dX4_dock_15 : decode cX4_dock 15 = .ok (.getfield 10, 3) := by decide +kernel
theorem dX4_dock_18 : decode cX4_dock 18 = .ok (.invokevirtual 48, 3) := by decide +kernel
theorem dX4_dock_21 : decode cX4_dock 21 = .ok (.aload_n 0, 1) := by decide +kernel
theorem dX4_dock_22 : decode cX4_dock 22 = .ok (.getfield 10, 3) := by decide +kernel
theorem dX4_dock_25 : decode cX4_dock 25 = .ok (.getfield 60, 3) := by decide +kernel
theorem dX4_dock_28 : decode cX4_dock 28 = .ok (.iload_n 1, 1) := by decide +kernel
theorem dX4_dock_29 : decode cX4_dock 29 = .ok (.aaload, 1) := by decide +kernel
theorem dX4_dock_30 : decode cX4_dock 30 = .ok (.invokevirtual 74, 3) := by decide +kernel
theorem dX4_dock_33 : decode cX4_dock 33 = .ok (.ireturn, 1) := by decide +kernel
set_option maxRecDepth 20000 in
theorem ggX4_add_X4_moveRange : GoodIn wsX4_add wsX4_moveRange := goodIn_r _ [8, 9, 1, 2, 10, 11, 12, 7, 13, 14, 15, 16, 17, 18, 19, 20, 21, 22, 23, 24, 25, 26, 27, 28, 29, 30, 31, 32, 33, 34, 35, 36, 37, 38, 39, 40, 41, 42, 43, 44, 45, 46, 47, 48, 49, 50, 51, 52, 53, 54, 55, 56, 57, 58, 59, 60, 61, 62, 63, 64, 65, 66, 67, 68, 69, 70, 71, 72, 73, 74, 75, 76, 77, 78, 79, 80, 81, 82, 83, 84, 85, 86, 87, 88, 89, 90, 91, 92, 93, 94, 95, 96, 97, 98, 99, 100, 101, 102, 103, 104, 105, 106, 107, 108, 109, 110, 111, 112, 113, 114, 115, 116, 117] (by decide +kernel) (by decide +kernel)
set_option maxRecDepth 20000 in
theorem gX4_add_X4_moveRange : GoodIn wsX4_add (wsV RX4 77 RX4 yX4_moveRange wsX4_moveRange) := goodIn_app (goodIn_of _ (by decide +kernel)) ggX4_add_X4_moveRange
theorem dX4_add_0 : decode cX4_add 0 = .ok (.aload_n 0, 1) := by decide +kernel
theorem dX4_add_1 : decode cX4_add 1 = .ok (.iload_n 1, 1) := by decide +kernel
theorem dX4_add_2 : decode cX4_add 2 = .ok (.iload_n 2, 1) := by decide +kernel
theorem dX4_add_3 : decode cX4_add 3 = .ok (.iload_n 2, 1) := by decide +kernel
theorem dX4_add_4 : decode cX4_add 4 = .ok (.iconst 1, 1) := by decide +kernel
theorem dX4_add_5 : decode cX4_add 5 = .ok (.invokevirtual 77, 3) := by decide +kernel
theorem dX4_add_8 : decode cX4_add 8 = .ok (.istore_n 3, 1) := by decide +kernel
theorem dX4_add_9 : decode cX4_add 9 = .ok (.iload_n 3, 1) := by decide +kernel
theorem dX4_add_10 : decode cX4_add 10 = .ok (.ifCond .ge 5, 3) := by decide +kernel
theorem dX4_add_13 : decode cX4_add 13 = .ok (.iload_n 3, 1) := by decide +kernel
theorem dX4_add_14 : decode cX4_add 14 = .ok (.ireturn, 1) := by decide +kernel
theorem dX4_add_15 : decode cX4_add 15 = .ok (.aload_n 0, 1) := by decide +kernel
theorem dX4_add_16 : decode cX4_add 16 = .ok (.getfield 10, 3) := by decide +kernel
theorem dX4_add_19 : decode cX4_add 19 = .ok (.getfield 60, 3) := by decide +kernel
theorem dX4_add_22 : decode cX4_add 22 = .ok (.iload_n 1, 1) := by decide +kernel
theorem dX4_add_23 : decode cX4_add 23 = .ok (.aaload, 1) := by decide +kernel
theorem dX4_add_24 : decode cX4_add 24 = .ok (.getfield 81, 3) := by decide +kernel
theorem dX4_add_27 : decode cX4_add 27 = .ok (.iload_n 2, 1) := by decide +kernel
theorem dX4_add_28 : decode cX4_add 28 = .ok (.sipush 256, 3) := by decide +kernel
theorem dX4_add_31 : decode cX4_add 31 = .ok (.idiv, 1) := by decide +kernel
theorem dX4_add_32 : decode cX4_add 32 = .ok (.iaload, 1) := by decide +kernel
theorem dX4_add_33 : decode cX4_add 33 = .ok (.ireturn, 1) := by decide +kernel
set_option maxRecDepth 20000 in
theorem ggX4_remove_X4_moveRange : GoodIn wsX4_remove wsX4_moveRange := goodIn_r _ [8, 9, 1, 2, 10, 11, 12, 7, 13, 14, 15, 16, 17, 18, 19, 20, 21, 22, 23, 24, 25, 26, 27, 28, 29, 30, 31, 32, 33, 34, 35, 36, 37, 38, 39, 40, 41, 42, 43, 44, 45, 46, 47, 48, 49, 50, 51, 52, 53, 54, 55, 56, 57, 58, 59, 60, 61, 62, 63, 64, 65, 66, 67, 68, 69, 70, 71, 72, 73, 74, 75, 76, 77, 78, 79, 80, 81, 82, 83, 84, 85, 86, 87, 88, 89, 90, 91, 92, 93, 94, 95, 96, 97, 98, 99, 100, 101, 102, 103, 104, 105, 106, 107, 108, 109, 110, 111, 112, 113, 114, 115, 116, 117] (by decide +kernel) (by decide +kernel)
set_option maxRecDepth 20000 in
theorem gX4_remove_X4_moveRange : GoodIn wsX4_remove (wsV RX4 77 RX4 yX4_moveRange wsX4_moveRange) := goodIn_app (goodIn_of _ (by decide +kernel)) ggX4_remove_X4_moveRange
theorem dX4_remove_0 : decode cX4_remove 0 = .ok (.aload_n 0, 1) := by decide +kernel
theorem dX4_remove_1 : decode cX4_remove 1 = .ok (.iload_n 1, 1) := by decide +kernel
theorem dX4_remove_2 : decode cX4_remove 2 = .ok (.iload_n 2, 1) := by decide +kernel
theorem dX4_remove_3 : decode cX4_remove 3 = .ok (.iload_n 2, 1) := by decide +kernel
theorem dX4_remove_4 : decode cX4_remove 4 = .ok (.iconst 0, 1) := by decide +kernel
theorem dX4_remove_5 : decode cX4_remove 5 = .ok (.invokevirtual 77, 3) := by decide +kernel
theorem dX4_remove_8 : decode cX4_remove 8 = .ok (.istore_n 3, 1) := by decide +kernel
theorem dX4_remove_9 : decode cX4_remove 9 = .ok (.iload_n 3, 1) := by decide +kernel
theorem dX4_remove_10 : decode cX4_remove 10 = .ok (.ifCond .ge 5, 3) := by decide +kernel
theorem dX4_remove_13 : decode cX4_remove 13 = .ok (.iload_n 3, 1) := by decide +kernel
theorem dX4_remove_14 : decode cX4_remove 14 = .ok (.ireturn, 1) := by decide +kernel
theorem dX4_remove_15 : decode cX4_remove 15 = .ok (.aload_n 0, 1) := by decide +kernel
theorem dX4_remove_16 : decode cX4_remove 16 = .ok (.getfield 10, 3) := by decide +kernel
theorem dX4_remove_19 : decode cX4_remove 19 = .ok (.getfield 60, 3) := by decide +kernel
theorem dX4_remove_22 : decode cX4_remove 22 = .ok (.iload_n 1, 1) := by decide +kernel
theorem dX4_remove_23 : decode cX4_remove 23 = .ok (.aaload, 1) := by decide +kernel
theorem dX4_remove_24 : decode cX4_remove 24 = .ok (.getfield 85, 3) := by decide +kernel
theorem dX4_remove_27 : decode cX4_remove 27 = .ok (.iload_n 2, 1) := by decide +kernel
theorem dX4_remove_28 : decode cX4_remove 28 = .ok (.sipush 256, 3) := by decide +kernel
theorem dX4_remove_31 : decode cX4_remove 31 = .ok (.idiv, 1) := by decide +kernel
theorem dX4_remove_32 : decode cX4_remove 32 = .ok (.iaload, 1) := by decide +kernel
theorem dX4_remove_33 : decode cX4_remove 33 = .ok (.ireturn, 1) := by decide +kernel
set_option maxRecDepth 20000 in
theorem ggX4_addRange_X4_moveRange : GoodIn wsX4_addRange wsX4_moveRange := goodIn_r _ [5, 6, 7, 8, 9, 10, 11, 4, 12, 13, 14, 15, 16, 17, 18, 19, 20, 21, 22, 23, 24, 25, 26, 27, 28, 29, 30, 31, 32, 33, 34, 35, 36, 37, 38, 39, 40, 41, 42, 43, 44, 45, 46, 47, 48, 49, 50, 51, 52, 53, 54, 55, 56, 57, 58, 59, 60, 61, 62, 63, 64, 65, 66, 67, 68, 69, 70, 71, 72, 73, 74, 75, 76, 77, 78, 79, 80, 81, 82, 83, 84, 85, 86, 87, 88, 89, 90, 91, 92, 93, 94, 95, 96, 97, 98, 99, 100, 101, 102, 103, 104, 105, 106, 107, 108, 109, 110, 111, 112, 113, 114, 115, 116] (by decide +kernel) (by decide +kernel)
set_option maxRecDepth 20000 in
theorem gX4_addRange_X4_moveRange : GoodIn wsX4_addRange (wsV RX4 77 RX4 yX4_moveRange wsX4_moveRange) := goodIn_app (goodIn_of _ (by decide +kernel)) ggX4_addRange_X4_moveRange
theorem dX4_addRange_0 : decode cX4_addRange 0 = .ok (.aload_n 0, 1) := by decide +kernel
theorem dX4_addRange_1 : decode cX4_addRange 1 = .ok (.iload_n 1, 1) := by decide +kernel
theorem dX4_addRange_2 : decode cX4_addRange 2 = .ok (.iload_n 2, 1) := by decide +kernel
theorem dX4_addRange_3 : decode cX4_addRange 3 = .ok (.iload_n 3, 1) := by decide +kernel
theorem dX4_addRange_4 : decode cX4_addRange 4 = .ok (.iconst 1, 1) := by decide +kernel
theorem dX4_addRange_5 : decode cX4_addRange 5 = .ok (.invokevirtual 77, 3) := by decide +kernel
theorem dX4_addRange_8 : decode cX4_addRange 8 = .ok (.ireturn, 1) := by decide +kernel
set_option maxRecDepth 20000 in
theorem ggX4_removeRange_X4_moveRange : GoodIn wsX4_removeRange wsX4_moveRange := goodIn_r _ [5, 6, 7, 8, 9, 10, 11, 4, 12, 13, 14, 15, 16, 17, 18, 19, 20, 21, 22, 23, 24, 25, 26, 27, 28, 29, 30, 31, 32, 33, 34, 35, 36, 37, 38, 39, 40, 41, 42, 43, 44, 45, 46, 47, 48, 49, 50, 51, 52, 53, 54, 55, 56, 57, 58, 59, 60, 61, 62, 63, 64, 65, 66, 67, 68, 69, 70, 71, 72, 73, 74, 75, 76, 77, 78, 79, 80, 81, 82, 83, 84, 85, 86, 87, 88, 89, 90, 91, 92, 93, 94, 95, 96, 97, 98, 99, 100, 101, 102, 103, 104, 105, 106, 107, 108, 109, 110, 111, 112, 113, 114, 115, 116] (by decide +kernel) (by decide +kernel)
set_option maxRecDepth 20000 in
theorem gX4_removeRange_X4_moveRange : GoodIn wsX4_removeRange (wsV RX4 77 RX4 yX4_moveRange wsX4_moveRange) := goodIn_app (goodIn_of _ (by decide +kernel)) ggX4_removeRange_X4_moveRange
theorem dX4_removeRange_0 : decode cX4_removeRange 0 = .ok (.aload_n 0, 1) := by decide +kernel
theorem dX4_removeRange_1 : decode cX4_removeRange 1 = .ok (.iload_n 1, 1) := by decide +kernel
theorem dX4_removeRange_2 : decode cX4_removeRange 2 = .ok (.iload_n 2, 1) := by decide +kernel
theorem dX4_removeRange_3 : decode cX4_removeRange 3 = .ok (.iload_n 3, 1) := by decide +kernel
theorem dX4_removeRange_4 : decode cX4_removeRange 4 = .ok (.iconst 0, 1) := by decide +kernel
theorem dX4_removeRange_5 : decode cX4_removeRange 5 = .ok (.invokevirtual 77, 3) := by decide +kernel
theorem dX4_removeRange_8 : decode cX4_removeRange 8 = .ok (.ireturn, 1) := by decide +kernel
set_option maxRecDepth 20000 in
theorem ggX4_combine_X4_isSet : GoodIn wsX4_combine wsX4_isSet := goodIn_r _ [10, 1, 11, 98, 99, 100, 101, 102, 103, 104, 105] (by decide +kernel) (by decide +kernel)
set_option maxRecDepth 20000 in
theorem gX4_combine_X4_isSet : GoodIn wsX4_combine (wsV RX4 56 RX4 yX4_isSet wsX4_isSet) := goodIn_app (goodIn_of _ (by decide +kernel)) ggX4_combine_X4_isSet
set_option maxRecDepth 20000 in
theorem ggX4_combine_X4_isHow : GoodIn wsX4_combine wsX4_isHow := goodIn_r _ [14] (by decide +kernel) (by decide +kernel)
set_option maxRecDepth 20000 in
theorem gX4_combine_X4_isHow : GoodIn wsX4_combine (va_wsS RX4 88 yX4_isHow wsX4_isHow) := goodIn_app (goodIn_of _ (by decide +kernel)) ggX4_combine_X4_isHow
set_option maxRecDepth 20000 in
theorem ggX4_combine_X0_copyFrom : GoodIn wsX4_combine wsX0_copyFrom := goodIn_r _ [19, 20, 21, 22, 23, 24, 25, 26, 27, 28, 29, 30, 106, 107, 108, 109, 110, 111, 112] (by decide +kernel) (by decide +kernel)
set_option maxRecDepth 20000 in
theorem gX4_combine_X0_copyFrom : GoodIn wsX4_combine (wsV RX4 91 RX0 yX0_copyFrom wsX0_copyFrom) := goodIn_app (goodIn_of _ (by decide +kernel)) ggX4_combine_X0_copyFrom
set_option maxRecDepth 20000 in
theorem ggX4_combine_X0_fillWith : GoodIn wsX4_combine wsX0_fillWith := goodIn_r _ [34, 20, 25, 35, 36, 37, 18, 38, 26, 27, 39, 40, 41, 42, 43, 44, 45, 46, 9, 47, 48, 49, 50, 51, 52, 53, 54, 55, 56, 57, 58, 59, 60, 61, 62, 63, 64, 65, 66, 67, 68, 69, 70, 71, 72, 73, 74, 106, 107, 108, 109, 110, 111, 112] (by decide +kernel) (by decide +kernel)
set_option maxRecDepth 20000 in
theorem gX4_combine_X0_fillWith : GoodIn wsX4_combine (wsV RX4 95 RX0 yX0_fillWith wsX0_fillWith) := goodIn_app (goodIn_of _ (by decide +kernel)) ggX4_combine_X0_fillWith
set_option maxRecDepth 20000 in
theorem ggX4_combine_X2_push : GoodIn wsX4_combine wsX2_push := goodIn_r _ [79, 80, 81, 82, 83, 84, 78, 85, 86, 87, 88, 89, 90, 91, 92, 93, 16, 17, 18, 19, 20, 21, 22, 23, 24, 25, 26, 27, 28, 29, 30, 113, 114, 104, 105, 106, 107, 108, 109, 110, 111, 112] (by decide +kernel) (by decide +kernel)
set_option maxRecDepth 20000 in
theorem gX4_combine_X2_push : GoodIn wsX4_combine (wsV RX4 48 RX2 yX2_push wsX2_push) := goodIn_app (goodIn_of _ (by decide +kernel)) ggX4_combine_X2_push
set_option maxRecDepth 20000 in
theorem ggX4_combine_X0_numbers : GoodIn wsX4_combine wsX0_numbers := goodIn_r _ [97, 26, 106, 107, 108, 109, 110, 111, 112] (by decide +kernel) (by decide +kernel)
set_option maxRecDepth 20000 in
theorem gX4_combine_X0_numbers : GoodIn wsX4_combine (wsV RX4 99 RX0 yX0_numbers wsX0_numbers) := goodIn_app (goodIn_of _ (by decide +kernel)) ggX4_combine_X0_numbers
theorem dX4_combine_0 : decode cX4_combine 0 = .ok (.aload_n 0, 1) := by decide +kernel
theorem dX4_combine_1 : decode cX4_combine 1 = .ok (.iload_n 2, 1) := by decide +kernel
theorem dX4_combine_2 : decode cX4_combine 2 = .ok (.invokevirtual 56, 3) := by decide +kernel
theorem dX4_combine_5 : decode cX4_combine 5 = .ok (.ifCond .eq 20, 3) := by decide +kernel
theorem dX4_combine_8 : decode cX4_combine 8 = .ok (.aload_n 0, 1) := by decide +kernel
theorem dX4_combine_9 : decode cX4_combine 9 = .ok (.iload_n 3, 1) := by decide +kernel
theorem dX4_combine_10 : decode cX4_combine 10 = .ok (.invokevirtual 56, 3) := by decide +kernel
theorem dX4_combine_13 : decode cX4_combine 13 = .ok (.ifCond .eq 12, 3) := by decide +kernel
theorem dX4_combine_16 : decode cX4_combine 16 = .ok (.aload_n 0, 1) := by decide +kernel
theorem dX4_combine_17 : decode cX4_combine 17 = .ok (.iload 4, 2) := by decide +kernel
theorem dX4_combine_19 : decode cX4_combine 19 = .ok (.invokevirtual 56, 3) := by decide +kernel
theorem dX4_combine_22 : decode cX4_combine 22 = .ok (.ifCond .ne 5, 3) := by decide +kernel
theorem dX4_combine_25 : decode cX4_combine 25 = .ok (.iconst (-1), 1) := by decide +kernel
theorem dX4_combine_26 : decode cX4_combine 26 = .ok (.ireturn, 1) := by decide +kernel
theorem dX4_combine_27 : decode cX4_combine 27 = .ok (.iload_n 1, 1) := by decide +kernel
theorem dX4_combine_28 : decode cX4_combine 28 = .ok (.invokestatic 88, 3) := by decide +kernel
theorem dX4_combine_31 : decode cX4_combine 31 = .ok (.ifCond .ne 6, 3) := by decide +kernel
theorem dX4_combine_34 : decode cX4_combine 34 = .ok (.bipush (-2), 2) := by decide +kernel
theorem dX4_combine_36 : decode cX4_combine 36 = .ok (.ireturn, 1) := by decide +kernel
theorem dX4_combine_37 : decode cX4_combine 37 = .ok (.aload_n 0, 1) := by decide +kernel
theorem dX4_combine_38 : decode cX4_combine 38 = .ok (.getfield 10, 3) := by decide +kernel
theorem dX4_combine_41 : decode cX4_combine 41 = .ok (.getfield 60, 3) := by decide +kernel
theorem dX4_combine_44 : decode cX4_combine 44 = .ok (.iload_n 2, 1) := by decide +kernel
theorem dX4_combine_45 : decode cX4_combine 45 = .ok (.aaload, 1) := by decide +kernel
theorem dX4_combine_46 : decode cX4_combine 46 = .ok (.astore 5, 2) := by decide +kernel
theorem dX4_combine_48 : decode cX4_combine 48 = .ok (.aload 5, 2) := by decide +kernel
theorem dX4_combine_50 : decode cX4_combine 50 = .ok (.getfield 67, 3) := by decide +kernel
theorem dX4_combine_53 : decode cX4_combine 53 = .ok (.ifCond .eq 6, 3) := by decide +kernel
theorem dX4_combine_56 : decode cX4_combine 56 = .ok (.bipush (-4), 2) := by decide +kernel
theorem dX4_combine_58 : decode cX4_combine 58 = .ok (.ireturn, 1) := by decide +kernel
theorem dX4_combine_59 : decode cX4_combine 59 = .ok (.aload_n 0, 1) := by decide +kernel
theorem dX4_combine_60 : decode cX4_combine 60 = .ok (.getfield 36, 3) := by decide +kernel
theorem dX4_combine_63 : decode cX4_combine 63 = .ok (.aload 5, 2) := by decide +kernel
theorem dX4_combine_65 : decode cX4_combine 65 = .ok (.invokevirtual 91, 3) := by decide +kernel
theorem dX4_combine_68 : decode cX4_combine 68 = .ok (.aload_n 0, 1) := by decide +kernel
theorem dX4_combine_69 : decode cX4_combine 69 = .ok (.getfield 36, 3) := by decide +kernel
theorem dX4_combine_72 : decode cX4_combine 72 = .ok (.iload_n 1, 1) := by decide +kernel
theorem dX4_combine_73 : decode cX4_combine 73 = .ok (.aload_n 0, 1) := by decide +kernel
theorem dX4_combine_74 : decode cX4_combine 74 = .ok (.getfield 10, 3) := by decide +kernel
theorem dX4_combine_77 : decode cX4_combine 77 = .ok (.getfield 60, 3) := by decide +kernel
theorem dX4_combine_80 : decode cX4_combine 80 = .ok (.iload_n 3, 1) := by decide +kernel
theorem dX4_combine_81 : decode cX4_combine 81 = .ok (.aaload, 1) := by decide +kernel
theorem dX4_combine_82 : decode cX4_combine 82 = .ok (.aload_n 0, 1) := by decide +kernel
theorem dX4_combine_83 : decode cX4_combine 83 = .ok (.getfield 10, 3) := by decide +kernel
theorem dX4_combine_86 : decode cX4_combine 86 = .ok (.getfield 60, 3) := by decide +kernel
theorem dX4_combine_89 : decode cX4_combine 89 = .ok (.iload 4, 2) := by decide +kernel
theorem dX4_combine_91 : decode cX4_combine 91 = .ok (.aaload, 1) := by decide +kernel
theorem dX4_combine_92 : decode cX4_combine 92 = .ok (.invokevirtual 95, 3) := by decide +kernel
theorem dX4_combine_95 : decode cX4_combine 95 = .ok (.aload_n 0, 1) := by decide +kernel
theorem dX4_combine_96 : decode cX4_combine 96 = .ok (.getfield 22, 3) := by decide +kernel
theorem dX4_combine_99 : decode cX4_combine 99 = .ok (.aload_n 0, 1) := by decide +kernel
theorem dX4_combine_100 : decode cX4_combine 100 = .ok (.getfield 10, 3) := by decide +kernel
theorem dX4_combine_103 : decode cX4_combine 103 = .ok (.invokevirtual 48, 3) := by decide +kernel
theorem dX4_combine_106 : decode cX4_combine 106 = .ok (.aload 5, 2) := by decide +kernel
theorem dX4_combine_108 : decode cX4_combine 108 = .ok (.aload_n 0, 1) := by decide +kernel
theorem dX4_combine_109 : decode cX4_combine 109 = .ok (.getfield 36, 3) := by decide +kernel
theorem dX4_combine_112 : decode cX4_combine 112 = .ok (.invokevirtual 91, 3) := by decide +kernel
theorem dX4_combine_115 : decode cX4_combine 115 = .ok (.aload 5, 2) := by decide +kernel
theorem dX4_combine_117 : decode cX4_combine 117 = .ok (.invokevirtual 99, 3) := by decide +kernel
theorem dX4_combine_120 : decode cX4_combine 120 = .ok (.ireturn, 1) := by decide +kernel
theorem dX4_type_0 : decode cX4_type 0 = .ok (.aload_n 0, 1) := by decide +kernel
theorem dX4_type_1 : decode cX4_type 1 = .ok (.getfield 29, 3) := by decide +kernel
theorem dX4_type_4 : decode cX4_type 4 = .ok (.getfield 102, 3) := by decide +kernel
theorem dX4_type_7 : decode cX4_type 7 = .ok (.bipush 60, 2) := by decide +kernel
theorem dX4_type_9 : decode cX4_type 9 = .ok (.if_icmp .lt 6, 3) := by decide +kernel
theorem dX4_type_12 : decode cX4_type 12 = .ok (.bipush (-3), 2) := by decide +kernel
theorem dX4_type_14 : decode cX4_type 14 = .ok (.ireturn, 1) := by decide +kernel
theorem dX4_type_15 : decode cX4_type 15 = .ok (.aload_n 0, 1) := by decide +kernel
theorem dX4_type_16 : decode cX4_type 16 = .ok (.getfield 29, 3) := by decide +kernel
theorem dX4_type_19 : decode cX4_type 19 = .ok (.getfield 105, 3) := by decide +kernel
theorem dX4_type_22 : decode cX4_type 22 = .ok (.aload_n 0, 1) := by decide +kernel
theorem dX4_type_23 : decode cX4_type 23 = .ok (.getfield 29, 3) := by decide +kernel
theorem dX4_type_26 : decode cX4_type 26 = .ok (.getfield 102, 3) := by decide +kernel
theorem dX4_type_29 : decode cX4_type 29 = .ok (.iload_n 1, 1) := by decide +kernel
theorem dX4_type_30 : decode cX4_type 30 = .ok (.castore, 1) := by decide +kernel
theorem dX4_type_31 : decode cX4_type 31 = .ok (.aload_n 0, 1) := by decide +kernel
theorem dX4_type_32 : decode cX4_type 32 = .ok (.getfield 29, 3) := by decide +kernel
theorem dX4_type_35 : decode cX4_type 35 = .ok (.dup, 1) := by decide +kernel
theorem dX4_type_36 : decode cX4_type 36 = .ok (.getfield 102, 3) := by decide +kernel
theorem dX4_type_39 : decode cX4_type 39 = .ok (.iconst 1, 1) := by decide +kernel
theorem dX4_type_40 : decode cX4_type 40 = .ok (.iadd, 1) := by decide +kernel
theorem dX4_type_41 : decode cX4_type 41 = .ok (.putfield 102, 3) := by decide +kernel
theorem dX4_type_44 : decode cX4_type 44 = .ok (.aload_n 0, 1) := by decide +kernel
theorem dX4_type_45 : decode cX4_type 45 = .ok (.getfield 29, 3) := by decide +kernel
theorem dX4_type_48 : decode cX4_type 48 = .ok (.getfield 102, 3) := by decide +kernel
theorem dX4_type_51 : decode cX4_type 51 = .ok (.ireturn, 1) := by decide +kernel
theorem dX4_clearText_0 : decode cX4_clearText 0 = .ok (.aload_n 0, 1) := by decide +kernel
theorem dX4_clearText_1 : decode cX4_clearText 1 = .ok (.getfield 29, 3) := by decide +kernel
theorem dX4_clearText_4 : decode cX4_clearText 4 = .ok (.getfield 102, 3) := by decide +kernel
theorem dX4_clearText_7 : decode cX4_clearText 7 = .ok (.istore_n 1, 1) := by decide +kernel
theorem dX4_clearText_8 : decode cX4_clearText 8 = .ok (.aload_n 0, 1) := by decide +kernel
theorem dX4_clearText_9 : decode cX4_clearText 9 = .ok (.getfield 29, 3) := by decide +kernel
theorem dX4_clearText_12 : decode cX4_clearText 12 = .ok (.iconst 0, 1) := by decide +kernel
theorem dX4_clearText_13 : decode cX4_clearText 13 = .ok (.putfield 102, 3) := by decide +kernel
theorem dX4_clearText_16 : decode cX4_clearText 16 = .ok (.iload_n 1, 1) := by decide +kernel
theorem dX4_clearText_17 : decode cX4_clearText 17 = .ok (.ireturn, 1) := by decide +kernel
set_option maxRecDepth 20000 in
theorem ggX4_readRanges_X4_isSet : GoodIn wsX4_readRanges wsX4_isSet := goodIn_r _ [12, 3, 13, 117, 118, 119, 120, 121, 122, 123, 124] (by decide +kernel) (by decide +kernel)
set_option maxRecDepth 20000 in
theorem gX4_readRanges_X4_isSet : GoodIn wsX4_readRanges (wsV RX4 56 RX4 yX4_isSet wsX4_isSet) := goodIn_app (goodIn_of _ (by decide +kernel)) ggX4_readRanges_X4_isSet
set_option maxRecDepth 20000 in
theorem ggX4_readRanges_X3_read : GoodIn wsX4_readRanges wsX3_read := goodIn_r _ [18, 19, 20, 21, 22, 23, 24, 17, 25, 26, 27, 125, 126, 127, 128, 129] (by decide +kernel) (by decide +kernel)
set_option maxRecDepth 20000 in
theorem gX4_readRanges_X3_read : GoodIn wsX4_readRanges (wsV RX4 109 RX3 yX3_read wsX3_read) := goodIn_app (goodIn_of _ (by decide +kernel)) ggX4_readRanges_X3_read
set_option maxRecDepth 20000 in
theorem ggX4_readRanges_X3_hasGoodValues : GoodIn wsX4_readRanges wsX3_hasGoodValues := goodIn_r _ [31, 19, 26, 27, 32, 11, 33, 125, 126, 127, 128, 129] (by decide +kernel) (by decide +kernel)
set_option maxRecDepth 20000 in
theorem gX4_readRanges_X3_hasGoodValues : GoodIn wsX4_readRanges (wsV RX4 112 RX3 yX3_hasGoodValues wsX3_hasGoodValues) := goodIn_app (goodIn_of _ (by decide +kernel)) ggX4_readRanges_X3_hasGoodValues
set_option maxRecDepth 20000 in
theorem ggX4_readRanges_X0_copyFrom : GoodIn wsX4_readRanges wsX0_copyFrom := goodIn_r _ [38, 39, 40, 41, 42, 43, 44, 45, 46, 47, 48, 49, 130, 131, 132, 133, 134, 135, 136] (by decide +kernel) (by decide +kernel)
set_option maxRecDepth 20000 in
theorem gX4_readRanges_X0_copyFrom : GoodIn wsX4_readRanges (wsV RX4 91 RX0 yX0_copyFrom wsX0_copyFrom) := goodIn_app (goodIn_of _ (by decide +kernel)) ggX4_readRanges_X0_copyFrom
set_option maxRecDepth 20000 in
theorem ggX4_readRanges_X0_move : GoodIn wsX4_readRanges wsX0_move := goodIn_r _ [53, 54, 55, 56, 57, 58, 59, 60, 61, 62, 63, 37, 64, 39, 32, 11, 33, 65, 66, 67, 68, 45, 46, 69, 70, 71, 72, 73, 74, 75, 76, 44, 49, 77, 78, 79, 80, 47, 48, 81, 82, 83, 84, 85, 86, 87, 88, 89, 90, 91, 92, 130, 131, 132, 133, 134, 135, 136] (by decide +kernel) (by decide +kernel)
set_option maxRecDepth 20000 in
theorem gX4_readRanges_X0_move : GoodIn wsX4_readRanges (wsV RX4 125 RX0 yX0_move wsX0_move) := goodIn_app (goodIn_of _ (by decide +kernel)) ggX4_readRanges_X0_move
set_option maxRecDepth 20000 in
theorem ggX4_readRanges_X4_settleTrial : GoodIn wsX4_readRanges wsX4_settleTrial := goodIn_r _ [96, 97, 3, 4, 2, 98, 99, 100, 101, 102, 103, 104, 105, 106, 107, 108, 109, 110, 111, 112, 113, 114, 115, 116, 35, 36, 37, 38, 39, 40, 41, 42, 43, 44, 45, 46, 47, 48, 49, 34, 117, 118, 119, 120, 121, 122, 123, 124, 137, 138, 130, 131, 132, 133, 134, 135, 136] (by decide +kernel) (by decide +kernel)
set_option maxRecDepth 20000 in
theorem gX4_readRanges_X4_settleTrial : GoodIn wsX4_readRanges (wsV RX4 129 RX4 yX4_settleTrial wsX4_settleTrial) := goodIn_app (goodIn_of _ (by decide +kernel)) ggX4_readRanges_X4_settleTrial
theorem dX4_readRanges_0 : decode cX4_readRanges 0 = .ok (.aload_n 0, 1) := by decide +kernel
theorem dX4_readRanges_1 : decode cX4_readRanges 1 = .ok (.iload_n 1, 1) := by decide +kernel
theorem dX4_readRanges_2 : decode cX4_readRanges 2 = .ok (.invokevirtual 56, 3) := by decide +kernel
theorem dX4_readRanges_5 : decode cX4_readRanges 5 = .ok (.ifCond .ne 5, 3) := by decide +kernel
theorem dX4_readRanges_8 : decode cX4_readRanges 8 = .ok (.iconst (-1), 1) := by decide +kernel
theorem dX4_readRanges_9 : decode cX4_readRanges 9 = .ok (.ireturn, 1) := by decide +kernel
theorem dX4_readRanges_10 : decode cX4_readRanges 10 = .ok (.aload_n 0, 1) := by decide +kernel
theorem dX4_readRanges_11 : decode cX4_readRanges 11 = .ok (.getfield 29, 3) := by decide +kernel
theorem dX4_readRanges_14 : decode cX4_readRanges 14 = .ok (.invokevirtual 109, 3) := by decide +kernel
theorem dX4_readRanges_17 : decode cX4_readRanges 17 = .ok (.istore_n 2, 1) := by decide +kernel
theorem dX4_readRanges_18 : decode cX4_readRanges 18 = .ok (.iload_n 2, 1) := by decide +kernel
theorem dX4_readRanges_19 : decode cX4_readRanges 19 = .ok (.iconst (-1), 1) := by decide +kernel
theorem dX4_readRanges_20 : decode cX4_readRanges 20 = .ok (.if_icmp .eq 8, 3) := by decide +kernel
theorem dX4_readRanges_23 : decode cX4_readRanges 23 = .ok (.bipush (-100), 2) := by decide +kernel
theorem dX4_readRanges_25 : decode cX4_readRanges 25 = .ok (.iload_n 2, 1) := by decide +kernel
theorem dX4_readRanges_26 : decode cX4_readRanges 26 = .ok (.isub, 1) := by decide +kernel
theorem dX4_readRanges_27 : decode cX4_readRanges 27 = .ok (.ireturn, 1) := by decide +kernel
theorem dX4_readRanges_28 : decode cX4_readRanges 28 = .ok (.aload_n 0, 1) := by decide +kernel
theorem dX4_readRanges_29 : decode cX4_readRanges 29 = .ok (.getfield 29, 3) := by decide +kernel
theorem dX4_readRanges_32 : decode cX4_readRanges 32 = .ok (.invokevirtual 112, 3) := by decide +kernel
theorem dX4_readRanges_35 : decode cX4_readRanges 35 = .ok (.ifCond .ne 6, 3) := by decide +kernel
theorem dX4_readRanges_38 : decode cX4_readRanges 38 = .ok (.bipush (-2), 2) := by decide +kernel
theorem dX4_readRanges_40 : decode cX4_readRanges 40 = .ok (.ireturn, 1) := by decide +kernel
theorem dX4_readRanges_41 : decode cX4_readRanges 41 = .ok (.aload_n 0, 1) := by decide +kernel
theorem dX4_readRanges_42 : decode cX4_readRanges 42 = .ok (.getfield 36, 3) := by decide +kernel
theorem dX4_readRanges_45 : decode cX4_readRanges 45 = .ok (.aload_n 0, 1) := by decide +kernel
theorem dX4_readRanges_46 : decode cX4_readRanges 46 = .ok (.getfield 10, 3) := by decide +kernel
theorem dX4_readRanges_49 : decode cX4_readRanges 49 = .ok (.getfield 60, 3) := by decide +kernel
theorem dX4_readRanges_52 : decode cX4_readRanges 52 = .ok (.iload_n 1, 1) := by decide +kernel
theorem dX4_readRanges_53 : decode cX4_readRanges 53 = .ok (.aaload, 1) := by decide +kernel
theorem dX4_readRanges_54 : decode cX4_readRanges 54 = .ok (.invokevirtual 91, 3) := by decide +kernel
theorem dX4_readRanges_57 : decode cX4_readRanges 57 = .ok (.iconst 0, 1) := by decide +kernel
theorem dX4_readRanges_58 : decode cX4_readRanges 58 = .ok (.istore_n 3, 1) := by decide +kernel
theorem dX4_readRanges_59 : decode cX4_readRanges 59 = .ok (.iconst 0, 1) := by decide +kernel
theorem dX4_readRanges_60 : decode cX4_readRanges 60 = .ok (.istore 4, 2) := by decide +kernel
theorem dX4_readRanges_62 : decode cX4_readRanges 62 = .ok (.iload 4, 2) := by decide +kernel
theorem dX4_readRanges_64 : decode cX4_readRanges 64 = .ok (.aload_n 0, 1) := by decide +kernel
theorem dX4_readRanges_65 : decode cX4_readRanges 65 = .ok (.getfield 29, 3) := by decide +kernel
theorem dX4_readRanges_68 : decode cX4_readRanges 68 = .ok (.getfield 116, 3) := by decide +kernel
theorem dX4_readRanges_71 : decode cX4_readRanges 71 = .ok (.if_icmp .ge 52, 3) := by decide +kernel
theorem dX4_readRanges_74 : decode cX4_readRanges 74 = .ok (.aload_n 0, 1) := by decide +kernel
theorem dX4_readRanges_75 : decode cX4_readRanges 75 = .ok (.getfield 36, 3) := by decide +kernel
theorem dX4_readRanges_78 : decode cX4_readRanges 78 = .ok (.aload_n 0, 1) := by decide +kernel
theorem dX4_readRanges_79 : decode cX4_readRanges 79 = .ok (.getfield 29, 3) := by decide +kernel
theorem dX4_readRanges_82 : decode cX4_readRanges 82 = .ok (.getfield 119, 3) := by decide +kernel
theorem dX4_readRanges_85 : decode cX4_readRanges 85 = .ok (.iload 4, 2) := by decide +kernel
theorem dX4_readRanges_87 : decode cX4_readRanges 87 = .ok (.iaload, 1) := by decide +kernel
theorem dX4_readRanges_88 : decode cX4_readRanges 88 = .ok (.aload_n 0, 1) := by decide +kernel
theorem dX4_readRanges_89 : decode cX4_readRanges 89 = .ok (.getfield 29, 3) := by decide +kernel
theorem dX4_readRanges_92 : decode cX4_readRanges 92 = .ok (.getfield 122, 3) := by decide +kernel
theorem dX4_readRanges_95 : decode cX4_readRanges 95 = .ok (.iload 4, 2) := by decide +kernel
theorem dX4_readRanges_97 : decode cX4_readRanges 97 = .ok (.iaload, 1) := by decide +kernel
theorem dX4_readRanges_98 : decode cX4_readRanges 98 = .ok (.iconst 1, 1) := by decide +kernel
theorem dX4_readRanges_99 : decode cX4_readRanges 99 = .ok (.invokevirtual 125, 3) := by decide +kernel
theorem dX4_readRanges_102 : decode cX4_readRanges 102 = .ok (.istore 5, 2) := by decide +kernel
theorem dX4_readRanges_104 : decode cX4_readRanges 104 = .ok (.iload 5, 2) := by decide +kernel
theorem dX4_readRanges_106 : decode cX4_readRanges 106 = .ok (.ifCond .ge 6, 3) := by decide +kernel
theorem dX4_readRanges_109 : decode cX4_readRanges 109 = .ok (.iload 5, 2) := by decide +kernel
theorem dX4_readRanges_111 : decode cX4_readRanges 111 = .ok (.ireturn, 1) := by decide +kernel
theorem dX4_readRanges_112 : decode cX4_readRanges 112 = .ok (.iload_n 3, 1) := by decide +kernel
theorem dX4_readRanges_113 : decode cX4_readRanges 113 = .ok (.iload 5, 2) := by decide +kernel
theorem dX4_readRanges_115 : decode cX4_readRanges 115 = .ok (.iadd, 1) := by decide +kernel
theorem dX4_readRanges_116 : decode cX4_readRanges 116 = .ok (.istore_n 3, 1) := by decide +kernel
theorem dX4_readRanges_117 : decode cX4_readRanges 117 = .ok (.iinc 4 1, 3) := by decide +kernel
theorem dX4_readRanges_120 : decode cX4_readRanges 120 = .ok (.goto (-58), 3) := by decide +kernel
theorem dX4_readRanges_123 : decode cX4_readRanges 123 = .ok (.aload_n 0, 1) := by decide +kernel
theorem dX4_readRanges_124 : decode cX4_readRanges 124 = .ok (.iload_n 1, 1) := by decide +kernel
theorem dX4_readRanges_125 : decode cX4_readRanges 125 = .ok (.iload_n 3, 1) := by decide +kernel
theorem dX4_readRanges_126 : decode cX4_readRanges 126 = .ok (.invokevirtual 129, 3) := by decide +kernel
theorem dX4_readRanges_129 : decode cX4_readRanges 129 = .ok (.ireturn, 1) := by decide +kernel
set_option maxRecDepth 20000 in
theorem ggX4_undo_X2_popInto : GoodIn wsX4_undo wsX2_popInto := goodIn_r _ [8, 9, 10, 11, 12, 13, 14, 15, 16, 17, 18, 19, 20, 21, 22, 23, 24, 25, 26, 27, 28, 29, 30, 31, 32, 33, 40, 41, 42, 43, 44, 45, 46, 47, 48, 49, 50] (by decide +kernel) (by decide +kernel)
set_option maxRecDepth 20000 in
theorem gX4_undo_X2_popInto : GoodIn wsX4_undo (wsV RX4 136 RX2 yX2_popInto wsX2_popInto) := goodIn_app (goodIn_of _ (by decide +kernel)) ggX4_undo_X2_popInto
theorem dX4_undo_0 : decode cX4_undo 0 = .ok (.aload_n 0, 1) := by decide +kernel
theorem dX4_undo_1 : decode cX4_undo 1 = .ok (.getfield 22, 3) := by decide +kernel
theorem dX4_undo_4 : decode cX4_undo 4 = .ok (.getfield 133, 3) := by decide +kernel
theorem dX4_undo_7 : decode cX4_undo 7 = .ok (.ifCond .ne 6, 3) := by decide +kernel
theorem dX4_undo_10 : decode cX4_undo 10 = .ok (.bipush (-5), 2) := by decide +kernel
theorem dX4_undo_12 : decode cX4_undo 12 = .ok (.ireturn, 1) := by decide +kernel
theorem dX4_undo_13 : decode cX4_undo 13 = .ok (.aload_n 0, 1) := by decide +kernel
theorem dX4_undo_14 : decode cX4_undo 14 = .ok (.getfield 22, 3) := by decide +kernel
theorem dX4_undo_17 : decode cX4_undo 17 = .ok (.aload_n 0, 1) := by decide +kernel
theorem dX4_undo_18 : decode cX4_undo 18 = .ok (.getfield 10, 3) := by decide +kernel
theorem dX4_undo_21 : decode cX4_undo 21 = .ok (.invokevirtual 136, 3) := by decide +kernel
theorem dX4_undo_24 : decode cX4_undo 24 = .ok (.aload_n 0, 1) := by decide +kernel
theorem dX4_undo_25 : decode cX4_undo 25 = .ok (.getfield 22, 3) := by decide +kernel
theorem dX4_undo_28 : decode cX4_undo 28 = .ok (.getfield 133, 3) := by decide +kernel
theorem dX4_undo_31 : decode cX4_undo 31 = .ok (.ireturn, 1) := by decide +kernel
set_option maxRecDepth 20000 in
theorem ggX4_keep_X1_copyFrom : GoodIn wsX4_keep wsX1_copyFrom := goodIn_r _ [9, 10, 11, 12, 13, 14, 15, 16, 17, 18, 19, 20, 21, 22, 23, 24, 25, 26, 27, 34, 35, 36, 37, 38, 39, 40, 41, 42] (by decide +kernel) (by decide +kernel)
set_option maxRecDepth 20000 in
theorem gX4_keep_X1_copyFrom : GoodIn wsX4_keep (wsV RX4 139 RX1 yX1_copyFrom wsX1_copyFrom) := goodIn_app (goodIn_of _ (by decide +kernel)) ggX4_keep_X1_copyFrom
theorem dX4_keep_0 : decode cX4_keep 0 = .ok (.aload_n 0, 1) := by decide +kernel
theorem dX4_keep_1 : decode cX4_keep 1 = .ok (.getfield 16, 3) := by decide +kernel
theorem dX4_keep_4 : decode cX4_keep 4 = .ok (.aload_n 0, 1) := by decide +kernel
theorem dX4_keep_5 : decode cX4_keep 5 = .ok (.getfield 10, 3) := by decide +kernel
theorem dX4_keep_8 : decode cX4_keep 8 = .ok (.invokevirtual 139, 3) := by decide +kernel
theorem dX4_keep_11 : decode cX4_keep 11 = .ok (.aload_n 0, 1) := by decide +kernel
theorem dX4_keep_12 : decode cX4_keep 12 = .ok (.iconst 1, 1) := by decide +kernel
theorem dX4_keep_13 : decode cX4_keep 13 = .ok (.putfield 40, 3) := by decide +kernel
theorem dX4_keep_16 : decode cX4_keep 16 = .ok (.aload_n 0, 1) := by decide +kernel
theorem dX4_keep_17 : decode cX4_keep 17 = .ok (.getfield 10, 3) := by decide +kernel
theorem dX4_keep_20 : decode cX4_keep 20 = .ok (.getfield 44, 3) := by decide +kernel
theorem dX4_keep_23 : decode cX4_keep 23 = .ok (.ireturn, 1) := by decide +kernel
set_option maxRecDepth 20000 in
theorem ggX4_restore_X2_push : GoodIn wsX4_restore wsX2_push := goodIn_r _ [10, 11, 12, 13, 14, 15, 9, 16, 17, 18, 19, 20, 21, 22, 23, 24, 25, 26, 27, 28, 29, 30, 31, 32, 33, 34, 35, 36, 37, 38, 39, 49, 50, 47, 48, 51, 52, 53, 54, 55, 56, 57] (by decide +kernel) (by decide +kernel)
set_option maxRecDepth 20000 in
theorem gX4_restore_X2_push : GoodIn wsX4_restore (wsV RX4 48 RX2 yX2_push wsX2_push) := goodIn_app (goodIn_of _ (by decide +kernel)) ggX4_restore_X2_push
set_option maxRecDepth 20000 in
theorem ggX4_restore_X1_copyFrom : GoodIn wsX4_restore wsX1_copyFrom := goodIn_r _ [21, 22, 23, 24, 25, 26, 27, 28, 29, 30, 31, 32, 33, 34, 35, 36, 37, 38, 39, 47, 48, 51, 52, 53, 54, 55, 56, 57] (by decide +kernel) (by decide +kernel)
set_option maxRecDepth 20000 in
theorem gX4_restore_X1_copyFrom : GoodIn wsX4_restore (wsV RX4 139 RX1 yX1_copyFrom wsX1_copyFrom) := goodIn_app (goodIn_of _ (by decide +kernel)) ggX4_restore_X1_copyFrom
theorem dX4_restore_0 : decode cX4_restore 0 = .ok (.aload_n 0, 1) := by decide +kernel
theorem dX4_restore_1 : decode cX4_restore 1 = .ok (.getfield 40, 3) := by decide +kernel
theorem dX4_restore_4 : decode cX4_restore 4 = .ok (.ifCond .ne 6, 3) := by decide +kernel
theorem dX4_restore_7 : decode cX4_restore 7 = .ok (.bipush (-5), 2) := by decide +kernel
theorem dX4_restore_9 : decode cX4_restore 9 = .ok (.ireturn, 1) := by decide +kernel
theorem dX4_restore_10 : decode cX4_restore 10 = .ok (.aload_n 0, 1) := by decide +kernel
theorem dX4_restore_11 : decode cX4_restore 11 = .ok (.getfield 22, 3) := by decide +kernel
theorem dX4_restore_14 : decode cX4_restore 14 = .ok (.aload_n 0, 1) := by decide +kernel
theorem dX4_restore_15 : decode cX4_restore 15 = .ok (.getfield 10, 3) := by decide +kernel
theorem dX4_restore_18 : decode cX4_restore 18 = .ok (.invokevirtual 48, 3) := by decide +kernel
theorem dX4_restore_21 : decode cX4_restore 21 = .ok (.aload_n 0, 1) := by decide +kernel
theorem dX4_restore_22 : decode cX4_restore 22 = .ok (.getfield 10, 3) := by decide +kernel
theorem dX4_restore_25 : decode cX4_restore 25 = .ok (.aload_n 0, 1) := by decide +kernel
theorem dX4_restore_26 : decode cX4_restore 26 = .ok (.getfield 16, 3) := by decide +kernel
theorem dX4_restore_29 : decode cX4_restore 29 = .ok (.invokevirtual 139, 3) := by decide +kernel
theorem dX4_restore_32 : decode cX4_restore 32 = .ok (.aload_n 0, 1) := by decide +kernel
theorem dX4_restore_33 : decode cX4_restore 33 = .ok (.getfield 10, 3) := by decide +kernel
theorem dX4_restore_36 : decode cX4_restore 36 = .ok (.getfield 44, 3) := by decide +kernel
theorem dX4_restore_39 : decode cX4_restore 39 = .ok (.ireturn, 1) := by decide +kernel
set_option maxRecDepth 20000 in
theorem ggX4_has_X4_isSet : GoodIn wsX4_has wsX4_isSet := goodIn_r _ [7, 1, 8, 18, 19, 20, 21, 22, 23, 24, 25] (by decide +kernel) (by decide +kernel)
set_option maxRecDepth 20000 in
theorem gX4_has_X4_isSet : GoodIn wsX4_has (wsV RX4 56 RX4 yX4_isSet wsX4_isSet) := goodIn_app (goodIn_of _ (by decide +kernel)) ggX4_has_X4_isSet
set_option maxRecDepth 20000 in
theorem ggX4_has_X4_isNumber : GoodIn wsX4_has wsX4_isNumber := goodIn_r _ [11] (by decide +kernel) (by decide +kernel)
set_option maxRecDepth 20000 in
theorem gX4_has_X4_isNumber : GoodIn wsX4_has (va_wsS RX4 141 yX4_isNumber wsX4_isNumber) := goodIn_app (goodIn_of _ (by decide +kernel)) ggX4_has_X4_isNumber
set_option maxRecDepth 20000 in
theorem ggX4_has_X0_holds : GoodIn wsX4_has wsX0_holds := goodIn_r _ [16, 17, 10, 6, 11, 26, 27, 28, 29, 30, 31, 32] (by decide +kernel) (by decide +kernel)
set_option maxRecDepth 20000 in
theorem gX4_has_X0_holds : GoodIn wsX4_has (wsV RX4 144 RX0 yX0_holds wsX0_holds) := goodIn_app (goodIn_of _ (by decide +kernel)) ggX4_has_X0_holds
theorem dX4_has_0 : decode cX4_has 0 = .ok (.aload_n 0, 1) := by decide +kernel
theorem dX4_has_1 : decode cX4_has 1 = .ok (.iload_n 1, 1) := by decide +kernel
theorem dX4_has_2 : decode cX4_has 2 = .ok (.invokevirtual 56, 3) := by decide +kernel
theorem dX4_has_5 : decode cX4_has 5 = .ok (.ifCond .ne 5, 3) := by decide +kernel
theorem dX4_has_8 : decode cX4_has 8 = .ok (.iconst (-1), 1) := by decide +kernel
theorem dX4_has_9 : decode cX4_has 9 = .ok (.ireturn, 1) := by decide +kernel
theorem dX4_has_10 : decode cX4_has 10 = .ok (.iload_n 2, 1) := by decide +kernel
theorem dX4_has_11 : decode cX4_has 11 = .ok (.invokestatic 141, 3) := by decide +kernel
theorem dX4_has_14 : decode cX4_has 14 = .ok (.ifCond .ne 6, 3) := by decide +kernel
theorem dX4_has_17 : decode cX4_has 17 = .ok (.bipush (-2), 2) := by decide +kernel
theorem dX4_has_19 : decode cX4_has 19 = .ok (.ireturn, 1) := by decide +kernel
theorem dX4_has_20 : decode cX4_has 20 = .ok (.aload_n 0, 1) := by decide +kernel
theorem dX4_has_21 : decode cX4_has 21 = .ok (.getfield 10, 3) := by decide +kernel
theorem dX4_has_24 : decode cX4_has 24 = .ok (.getfield 60, 3) := by decide +kernel
theorem dX4_has_27 : decode cX4_has 27 = .ok (.iload_n 1, 1) := by decide +kernel
theorem dX4_has_28 : decode cX4_has 28 = .ok (.aaload, 1) := by decide +kernel
theorem dX4_has_29 : decode cX4_has 29 = .ok (.iload_n 2, 1) := by decide +kernel
theorem dX4_has_30 : decode cX4_has 30 = .ok (.invokevirtual 144, 3) := by decide +kernel
theorem dX4_has_33 : decode cX4_has 33 = .ok (.ifCond .eq 7, 3) := by decide +kernel
theorem dX4_has_36 : decode cX4_has 36 = .ok (.iconst 1, 1) := by decide +kernel
theorem dX4_has_37 : decode cX4_has 37 = .ok (.goto 4, 3) := by decide +kernel
theorem dX4_has_40 : decode cX4_has 40 = .ok (.iconst 0, 1) := by decide +kernel
theorem dX4_has_41 : decode cX4_has 41 = .ok (.ireturn, 1) := by decide +kernel
set_option maxRecDepth 20000 in
theorem ggX4_set_X4_isSet : GoodIn wsX4_set wsX4_isSet := goodIn_r _ [10, 1, 11, 67, 68, 69, 70, 71, 72, 73, 74] (by decide +kernel) (by decide +kernel)
set_option maxRecDepth 20000 in
theorem gX4_set_X4_isSet : GoodIn wsX4_set (wsV RX4 56 RX4 yX4_isSet wsX4_isSet) := goodIn_app (goodIn_of _ (by decide +kernel)) ggX4_set_X4_isSet
set_option maxRecDepth 20000 in
theorem ggX4_set_X0_numbers : GoodIn wsX4_set wsX0_numbers := goodIn_r _ [16, 17, 75, 76, 77, 78, 79, 80, 81] (by decide +kernel) (by decide +kernel)
set_option maxRecDepth 20000 in
theorem gX4_set_X0_numbers : GoodIn wsX4_set (wsV RX4 99 RX0 yX0_numbers wsX0_numbers) := goodIn_app (goodIn_of _ (by decide +kernel)) ggX4_set_X0_numbers
set_option maxRecDepth 20000 in
theorem ggX4_set_X0_boats : GoodIn wsX4_set wsX0_boats := goodIn_r _ [21, 22, 23, 24, 15, 25, 17, 26, 75, 76, 77, 78, 79, 80, 81] (by decide +kernel) (by decide +kernel)
set_option maxRecDepth 20000 in
theorem gX4_set_X0_boats : GoodIn wsX4_set (wsV RX4 70 RX0 yX0_boats wsX0_boats) := goodIn_app (goodIn_of _ (by decide +kernel)) ggX4_set_X0_boats
set_option maxRecDepth 20000 in
theorem ggX4_set_X0_units : GoodIn wsX4_set wsX0_units := goodIn_r _ [30, 26, 31, 32, 33, 15, 34, 17, 35, 75, 76, 77, 78, 79, 80, 81] (by decide +kernel) (by decide +kernel)
set_option maxRecDepth 20000 in
theorem gX4_set_X0_units : GoodIn wsX4_set (wsV RX4 147 RX0 yX0_units wsX0_units) := goodIn_app (goodIn_of _ (by decide +kernel)) ggX4_set_X0_units
set_option maxRecDepth 20000 in
theorem ggX4_set_X0_allRuns : GoodIn wsX4_set wsX0_allRuns := goodIn_r _ [39, 35, 75, 76, 77, 78, 79, 80, 81] (by decide +kernel) (by decide +kernel)
set_option maxRecDepth 20000 in
theorem gX4_set_X0_allRuns : GoodIn wsX4_set (wsV RX4 153 RX0 yX0_allRuns wsX0_allRuns) := goodIn_app (goodIn_of _ (by decide +kernel)) ggX4_set_X0_allRuns
set_option maxRecDepth 20000 in
theorem ggX4_set_X0_numberAt : GoodIn wsX4_set wsX0_numberAt := goodIn_r _ [43, 44, 45, 46, 47, 48, 49, 50, 51, 52, 53, 15, 54, 75, 76, 77, 78, 79, 80, 81] (by decide +kernel) (by decide +kernel)
set_option maxRecDepth 20000 in
theorem gX4_set_X0_numberAt : GoodIn wsX4_set (wsV RX4 156 RX0 yX0_numberAt wsX0_numberAt) := goodIn_app (goodIn_of _ (by decide +kernel)) ggX4_set_X0_numberAt
set_option maxRecDepth 20000 in
theorem ggX4_set_X0_bestUnits : GoodIn wsX4_set wsX0_bestUnits := goodIn_r _ [58, 59, 60, 61, 15, 62, 63, 64, 65, 66, 17, 35, 31, 32, 33, 34, 75, 76, 77, 78, 79, 80, 81] (by decide +kernel) (by decide +kernel)
set_option maxRecDepth 20000 in
theorem gX4_set_X0_bestUnits : GoodIn wsX4_set (wsV RX4 159 RX0 yX0_bestUnits wsX0_bestUnits) := goodIn_app (goodIn_of _ (by decide +kernel)) ggX4_set_X0_bestUnits
theorem dX4_set_0 : decode cX4_set 0 = .ok (.aload_n 0, 1) := by decide +kernel
theorem dX4_set_1 : decode cX4_set 1 = .ok (.iload_n 1, 1) := by decide +kernel
theorem dX4_set_2 : decode cX4_set 2 = .ok (.invokevirtual 56, 3) := by decide +kernel
theorem dX4_set_5 : decode cX4_set 5 = .ok (.ifCond .ne 5, 3) := by decide +kernel
theorem dX4_set_8 : decode cX4_set 8 = .ok (.iconst (-1), 1) := by decide +kernel
theorem dX4_set_9 : decode cX4_set 9 = .ok (.ireturn, 1) := by decide +kernel
theorem dX4_set_10 : decode cX4_set 10 = .ok (.aload_n 0, 1) := by decide +kernel
theorem dX4_set_11 : decode cX4_set 11 = .ok (.getfield 10, 3) := by decide +kernel
theorem dX4_set_14 : decode cX4_set 14 = .ok (.getfield 60, 3) := by decide +kernel
theorem dX4_set_17 : decode cX4_set 17 = .ok (.iload_n 1, 1) := by decide +kernel
theorem dX4_set_18 : decode cX4_set 18 = .ok (.aaload, 1) := by decide +kernel
theorem dX4_set_19 : decode cX4_set 19 = .ok (.astore_n 3, 1) := by decide +kernel
theorem dX4_set_20 : decode cX4_set 20 = .ok (.iload_n 2, 1) := by decide +kernel
theorem dX4_set_21 : decode cX4_set 21 = .ok (.tableswitch 120 0 9 #[55, 60, 65, 70, 75, 88, 93, 98, 104, 115], 55) := by decide +kernel
theorem dX4_set_76 : decode cX4_set 76 = .ok (.aload_n 3, 1) := by decide +kernel
theorem dX4_set_77 : decode cX4_set 77 = .ok (.invokevirtual 99, 3) := by decide +kernel
theorem dX4_set_80 : decode cX4_set 80 = .ok (.ireturn, 1) := by decide +kernel
theorem dX4_set_81 : decode cX4_set 81 = .ok (.aload_n 3, 1) := by decide +kernel
theorem dX4_set_82 : decode cX4_set 82 = .ok (.invokevirtual 70, 3) := by decide +kernel
theorem dX4_set_85 : decode cX4_set 85 = .ok (.ireturn, 1) := by decide +kernel
theorem dX4_set_86 : decode cX4_set 86 = .ok (.aload_n 3, 1) := by decide +kernel
theorem dX4_set_87 : decode cX4_set 87 = .ok (.invokevirtual 147, 3) := by decide +kernel
theorem dX4_set_90 : decode cX4_set 90 = .ok (.ireturn, 1) := by decide +kernel
theorem dX4_set_91 : decode cX4_set 91 = .ok (.aload_n 3, 1) := by decide +kernel
theorem dX4_set_92 : decode cX4_set 92 = .ok (.getfield 64, 3) := by decide +kernel
theorem dX4_set_95 : decode cX4_set 95 = .ok (.ireturn, 1) := by decide +kernel
theorem dX4_set_96 : decode cX4_set 96 = .ok (.aload_n 3, 1) := by decide +kernel
theorem dX4_set_97 : decode cX4_set 97 = .ok (.getfield 67, 3) := by decide +kernel
theorem dX4_set_100 : decode cX4_set 100 = .ok (.ifCond .eq 7, 3) := by decide +kernel
theorem dX4_set_103 : decode cX4_set 103 = .ok (.iconst 1, 1) := by decide +kernel
theorem dX4_set_104 : decode cX4_set 104 = .ok (.goto 4, 3) := by decide +kernel
theorem dX4_set_107 : decode cX4_set 107 = .ok (.iconst 0, 1) := by decide +kernel
theorem dX4_set_108 : decode cX4_set 108 = .ok (.ireturn, 1) := by decide +kernel
theorem dX4_set_109 : decode cX4_set 109 = .ok (.aload_n 3, 1) := by decide +kernel
theorem dX4_set_110 : decode cX4_set 110 = .ok (.getfield 150, 3) := by decide +kernel
theorem dX4_set_113 : decode cX4_set 113 = .ok (.ireturn, 1) := by decide +kernel
theorem dX4_set_114 : decode cX4_set 114 = .ok (.aload_n 3, 1) := by decide +kernel
theorem dX4_set_115 : decode cX4_set 115 = .ok (.invokevirtual 153, 3) := by decide +kernel
theorem dX4_set_118 : decode cX4_set 118 = .ok (.ireturn, 1) := by decide +kernel
theorem dX4_set_119 : decode cX4_set 119 = .ok (.aload_n 3, 1) := by decide +kernel
theorem dX4_set_120 : decode cX4_set 120 = .ok (.iconst 0, 1) := by decide +kernel
theorem dX4_set_121 : decode cX4_set 121 = .ok (.invokevirtual 156, 3) := by decide +kernel
theorem dX4_set_124 : decode cX4_set 124 = .ok (.ireturn, 1) := by decide +kernel
theorem dX4_set_125 : decode cX4_set 125 = .ok (.aload_n 3, 1) := by decide +kernel
theorem dX4_set_126 : decode cX4_set 126 = .ok (.aload_n 3, 1) := by decide +kernel
theorem dX4_set_127 : decode cX4_set 127 = .ok (.invokevirtual 99, 3) := by decide +kernel
theorem dX4_set_130 : decode cX4_set 130 = .ok (.iconst 1, 1) := by decide +kernel
theorem dX4_set_131 : decode cX4_set 131 = .ok (.isub, 1) := by decide +kernel
theorem dX4_set_132 : decode cX4_set 132 = .ok (.invokevirtual 156, 3) := by decide +kernel
theorem dX4_set_135 : decode cX4_set 135 = .ok (.ireturn, 1) := by decide +kernel
theorem dX4_set_136 : decode cX4_set 136 = .ok (.aload_n 3, 1) := by decide +kernel
theorem dX4_set_137 : decode cX4_set 137 = .ok (.invokevirtual 159, 3) := by decide +kernel
theorem dX4_set_140 : decode cX4_set 140 = .ok (.ireturn, 1) := by decide +kernel
theorem dX4_set_141 : decode cX4_set 141 = .ok (.bipush (-2), 2) := by decide +kernel
theorem dX4_set_143 : decode cX4_set 143 = .ok (.ireturn, 1) := by decide +kernel
set_option maxRecDepth 20000 in
theorem ggX4_boat_X4_isSet : GoodIn wsX4_boat wsX4_isSet := goodIn_r _ [10, 1, 11, 34, 35, 36, 37, 38, 39, 40, 41] (by decide +kernel) (by decide +kernel)
set_option maxRecDepth 20000 in
theorem gX4_boat_X4_isSet : GoodIn wsX4_boat (wsV RX4 56 RX4 yX4_isSet wsX4_isSet) := goodIn_app (goodIn_of _ (by decide +kernel)) ggX4_boat_X4_isSet
set_option maxRecDepth 20000 in
theorem ggX4_boat_X0_unitsAs : GoodIn wsX4_boat wsX0_unitsAs := goodIn_r _ [16, 17, 18, 42, 43, 44, 45, 46, 47, 48] (by decide +kernel) (by decide +kernel)
set_option maxRecDepth 20000 in
theorem gX4_boat_X0_unitsAs : GoodIn wsX4_boat (wsV RX4 165 RX0 yX0_unitsAs wsX0_unitsAs) := goodIn_app (goodIn_of _ (by decide +kernel)) ggX4_boat_X0_unitsAs
set_option maxRecDepth 20000 in
theorem ggX4_boat_X0_bestKind : GoodIn wsX4_boat wsX0_bestKind := goodIn_r _ [22, 23, 24, 25, 15, 26, 17, 18, 27, 13, 14, 16, 42, 43, 44, 45, 46, 47, 48] (by decide +kernel) (by decide +kernel)
set_option maxRecDepth 20000 in
theorem gX4_boat_X0_bestKind : GoodIn wsX4_boat (wsV RX4 168 RX0 yX0_bestKind wsX0_bestKind) := goodIn_app (goodIn_of _ (by decide +kernel)) ggX4_boat_X0_bestKind
set_option maxRecDepth 20000 in
theorem ggX4_boat_X0_tollToBest : GoodIn wsX4_boat wsX0_tollToBest := goodIn_r _ [31, 32, 33, 20, 21, 15, 22, 23, 24, 25, 26, 17, 18, 27, 13, 14, 16, 42, 43, 44, 45, 46, 47, 48] (by decide +kernel) (by decide +kernel)
set_option maxRecDepth 20000 in
theorem gX4_boat_X0_tollToBest : GoodIn wsX4_boat (wsV RX4 171 RX0 yX0_tollToBest wsX0_tollToBest) := goodIn_app (goodIn_of _ (by decide +kernel)) ggX4_boat_X0_tollToBest
theorem dX4_boat_0 : decode cX4_boat 0 = .ok (.aload_n 0, 1) := by decide +kernel
theorem dX4_boat_1 : decode cX4_boat 1 = .ok (.iload_n 1, 1) := by decide +kernel
theorem dX4_boat_2 : decode cX4_boat 2 = .ok (.invokevirtual 56, 3) := by decide +kernel
theorem dX4_boat_5 : decode cX4_boat 5 = .ok (.ifCond .ne 5, 3) := by decide +kernel
theorem dX4_boat_8 : decode cX4_boat 8 = .ok (.iconst (-1), 1) := by decide +kernel
theorem dX4_boat_9 : decode cX4_boat 9 = .ok (.ireturn, 1) := by decide +kernel
theorem dX4_boat_10 : decode cX4_boat 10 = .ok (.iload_n 2, 1) := by decide +kernel
theorem dX4_boat_11 : decode cX4_boat 11 = .ok (.ifCond .lt 18, 3) := by decide +kernel
theorem dX4_boat_14 : decode cX4_boat 14 = .ok (.iload_n 2, 1) := by decide +kernel
theorem dX4_boat_15 : decode cX4_boat 15 = .ok (.bipush 8, 2) := by decide +kernel
theorem dX4_boat_17 : decode cX4_boat 17 = .ok (.if_icmp .ge 12, 3) := by decide +kernel
theorem dX4_boat_20 : decode cX4_boat 20 = .ok (.iload_n 3, 1) := by decide +kernel
theorem dX4_boat_21 : decode cX4_boat 21 = .ok (.ifCond .lt 8, 3) := by decide +kernel
theorem dX4_boat_24 : decode cX4_boat 24 = .ok (.iload_n 3, 1) := by decide +kernel
theorem dX4_boat_25 : decode cX4_boat 25 = .ok (.iconst 5, 1) := by decide +kernel
theorem dX4_boat_26 : decode cX4_boat 26 = .ok (.if_icmp .le 6, 3) := by decide +kernel
theorem dX4_boat_29 : decode cX4_boat 29 = .ok (.bipush (-2), 2) := by decide +kernel
theorem dX4_boat_31 : decode cX4_boat 31 = .ok (.ireturn, 1) := by decide +kernel
theorem dX4_boat_32 : decode cX4_boat 32 = .ok (.aload_n 0, 1) := by decide +kernel
theorem dX4_boat_33 : decode cX4_boat 33 = .ok (.getfield 10, 3) := by decide +kernel
theorem dX4_boat_36 : decode cX4_boat 36 = .ok (.getfield 60, 3) := by decide +kernel
theorem dX4_boat_39 : decode cX4_boat 39 = .ok (.iload_n 1, 1) := by decide +kernel
theorem dX4_boat_40 : decode cX4_boat 40 = .ok (.aaload, 1) := by decide +kernel
theorem dX4_boat_41 : decode cX4_boat 41 = .ok (.astore 4, 2) := by decide +kernel
theorem dX4_boat_43 : decode cX4_boat 43 = .ok (.aload 4, 2) := by decide +kernel
theorem dX4_boat_45 : decode cX4_boat 45 = .ok (.getfield 85, 3) := by decide +kernel
theorem dX4_boat_48 : decode cX4_boat 48 = .ok (.iload_n 2, 1) := by decide +kernel
theorem dX4_boat_49 : decode cX4_boat 49 = .ok (.iaload, 1) := by decide +kernel
theorem dX4_boat_50 : decode cX4_boat 50 = .ok (.ifCond .ne 6, 3) := by decide +kernel
theorem dX4_boat_53 : decode cX4_boat 53 = .ok (.bipush (-5), 2) := by decide +kernel
theorem dX4_boat_55 : decode cX4_boat 55 = .ok (.ireturn, 1) := by decide +kernel
theorem dX4_boat_56 : decode cX4_boat 56 = .ok (.iload_n 3, 1) := by decide +kernel
theorem dX4_boat_57 : decode cX4_boat 57 = .ok (.tableswitch 80 0 4 #[35, 43, 51, 59, 73], 35) := by decide +kernel
theorem dX4_boat_92 : decode cX4_boat 92 = .ok (.aload 4, 2) := by decide +kernel
theorem dX4_boat_94 : decode cX4_boat 94 = .ok (.getfield 81, 3) := by decide +kernel
theorem dX4_boat_97 : decode cX4_boat 97 = .ok (.iload_n 2, 1) := by decide +kernel
theorem dX4_boat_98 : decode cX4_boat 98 = .ok (.iaload, 1) := by decide +kernel
theorem dX4_boat_99 : decode cX4_boat 99 = .ok (.ireturn, 1) := by decide +kernel
theorem dX4_boat_100 : decode cX4_boat 100 = .ok (.aload 4, 2) := by decide +kernel
theorem dX4_boat_102 : decode cX4_boat 102 = .ok (.getfield 85, 3) := by decide +kernel
theorem dX4_boat_105 : decode cX4_boat 105 = .ok (.iload_n 2, 1) := by decide +kernel
theorem dX4_boat_106 : decode cX4_boat 106 = .ok (.iaload, 1) := by decide +kernel
theorem dX4_boat_107 : decode cX4_boat 107 = .ok (.ireturn, 1) := by decide +kernel
theorem dX4_boat_108 : decode cX4_boat 108 = .ok (.aload 4, 2) := by decide +kernel
theorem dX4_boat_110 : decode cX4_boat 110 = .ok (.getfield 162, 3) := by decide +kernel
theorem dX4_boat_113 : decode cX4_boat 113 = .ok (.iload_n 2, 1) := by decide +kernel
theorem dX4_boat_114 : decode cX4_boat 114 = .ok (.iaload, 1) := by decide +kernel
theorem dX4_boat_115 : decode cX4_boat 115 = .ok (.ireturn, 1) := by decide +kernel
theorem dX4_boat_116 : decode cX4_boat 116 = .ok (.aload 4, 2) := by decide +kernel
theorem dX4_boat_118 : decode cX4_boat 118 = .ok (.iload_n 2, 1) := by decide +kernel
theorem dX4_boat_119 : decode cX4_boat 119 = .ok (.aload 4, 2) := by decide +kernel
theorem dX4_boat_121 : decode cX4_boat 121 = .ok (.getfield 81, 3) := by decide +kernel
theorem dX4_boat_124 : decode cX4_boat 124 = .ok (.iload_n 2, 1) := by decide +kernel
theorem dX4_boat_125 : decode cX4_boat 125 = .ok (.iaload, 1) := by decide +kernel
theorem dX4_boat_126 : decode cX4_boat 126 = .ok (.invokevirtual 165, 3) := by decide +kernel
theorem dX4_boat_129 : decode cX4_boat 129 = .ok (.ireturn, 1) := by decide +kernel
theorem dX4_boat_130 : decode cX4_boat 130 = .ok (.aload 4, 2) := by decide +kernel
theorem dX4_boat_132 : decode cX4_boat 132 = .ok (.iload_n 2, 1) := by decide +kernel
theorem dX4_boat_133 : decode cX4_boat 133 = .ok (.invokevirtual 168, 3) := by decide +kernel
theorem dX4_boat_136 : decode cX4_boat 136 = .ok (.ireturn, 1) := by decide +kernel
theorem dX4_boat_137 : decode cX4_boat 137 = .ok (.aload 4, 2) := by decide +kernel
theorem dX4_boat_139 : decode cX4_boat 139 = .ok (.iload_n 2, 1) := by decide +kernel
theorem dX4_boat_140 : decode cX4_boat 140 = .ok (.invokevirtual 171, 3) := by decide +kernel
theorem dX4_boat_143 : decode cX4_boat 143 = .ok (.ireturn, 1) := by decide +kernel
set_option maxRecDepth 20000 in
theorem ggX4_rank_X4_isSet : GoodIn wsX4_rank wsX4_isSet := goodIn_r _ [7, 1, 8, 25, 26, 27, 28, 29, 30, 31, 32] (by decide +kernel) (by decide +kernel)
set_option maxRecDepth 20000 in
theorem gX4_rank_X4_isSet : GoodIn wsX4_rank (wsV RX4 56 RX4 yX4_isSet wsX4_isSet) := goodIn_app (goodIn_of _ (by decide +kernel)) ggX4_rank_X4_isSet
set_option maxRecDepth 20000 in
theorem ggX4_rank_X4_isNumber : GoodIn wsX4_rank wsX4_isNumber := goodIn_r _ [11] (by decide +kernel) (by decide +kernel)
set_option maxRecDepth 20000 in
theorem gX4_rank_X4_isNumber : GoodIn wsX4_rank (va_wsS RX4 141 yX4_isNumber wsX4_isNumber) := goodIn_app (goodIn_of _ (by decide +kernel)) ggX4_rank_X4_isNumber
set_option maxRecDepth 20000 in
theorem ggX4_rank_X0_numbersBelow : GoodIn wsX4_rank wsX0_numbersBelow := goodIn_r _ [16, 17, 10, 6, 11, 18, 19, 20, 21, 22, 23, 24, 33, 34, 35, 36, 37, 38, 39] (by decide +kernel) (by decide +kernel)
set_option maxRecDepth 20000 in
theorem gX4_rank_X0_numbersBelow : GoodIn wsX4_rank (wsV RX4 174 RX0 yX0_numbersBelow wsX0_numbersBelow) := goodIn_app (goodIn_of _ (by decide +kernel)) ggX4_rank_X0_numbersBelow
theorem dX4_rank_0 : decode cX4_rank 0 = .ok (.aload_n 0, 1) := by decide +kernel
theorem dX4_rank_1 : decode cX4_rank 1 = .ok (.iload_n 1, 1) := by decide +kernel
theorem dX4_rank_2 : decode cX4_rank 2 = .ok (.invokevirtual 56, 3) := by decide +kernel
theorem dX4_rank_5 : decode cX4_rank 5 = .ok (.ifCond .ne 5, 3) := by decide +kernel
theorem dX4_rank_8 : decode cX4_rank 8 = .ok (.iconst (-1), 1) := by decide +kernel
theorem dX4_rank_9 : decode cX4_rank 9 = .ok (.ireturn, 1) := by decide +kernel
theorem dX4_rank_10 : decode cX4_rank 10 = .ok (.iload_n 2, 1) := by decide +kernel
theorem dX4_rank_11 : decode cX4_rank 11 = .ok (.invokestatic 141, 3) := by decide +kernel
theorem dX4_rank_14 : decode cX4_rank 14 = .ok (.ifCond .ne 6, 3) := by decide +kernel
theorem dX4_rank_17 : decode cX4_rank 17 = .ok (.bipush (-2), 2) := by decide +kernel
theorem dX4_rank_19 : decode cX4_rank 19 = .ok (.ireturn, 1) := by decide +kernel
theorem dX4_rank_20 : decode cX4_rank 20 = .ok (.aload_n 0, 1) := by decide +kernel
theorem dX4_rank_21 : decode cX4_rank 21 = .ok (.getfield 10, 3) := by decide +kernel
theorem dX4_rank_24 : decode cX4_rank 24 = .ok (.getfield 60, 3) := by decide +kernel
theorem dX4_rank_27 : decode cX4_rank 27 = .ok (.iload_n 1, 1) := by decide +kernel
theorem dX4_rank_28 : decode cX4_rank 28 = .ok (.aaload, 1) := by decide +kernel
theorem dX4_rank_29 : decode cX4_rank 29 = .ok (.iload_n 2, 1) := by decide +kernel
theorem dX4_rank_30 : decode cX4_rank 30 = .ok (.invokevirtual 174, 3) := by decide +kernel
theorem dX4_rank_33 : decode cX4_rank 33 = .ok (.ireturn, 1) := by decide +kernel
set_option maxRecDepth 20000 in
theorem ggX4_at_X4_isSet : GoodIn wsX4_at wsX4_isSet := goodIn_r _ [7, 1, 8, 25, 26, 27, 28, 29, 30, 31, 32] (by decide +kernel) (by decide +kernel)
set_option maxRecDepth 20000 in
theorem gX4_at_X4_isSet : GoodIn wsX4_at (wsV RX4 56 RX4 yX4_isSet wsX4_isSet) := goodIn_app (goodIn_of _ (by decide +kernel)) ggX4_at_X4_isSet
set_option maxRecDepth 20000 in
theorem ggX4_at_X0_numberAt : GoodIn wsX4_at wsX0_numberAt := goodIn_r _ [13, 14, 15, 16, 17, 18, 19, 20, 21, 22, 23, 12, 24, 33, 34, 35, 36, 37, 38, 39] (by decide +kernel) (by decide +kernel)
set_option maxRecDepth 20000 in
theorem gX4_at_X0_numberAt : GoodIn wsX4_at (wsV RX4 156 RX0 yX0_numberAt wsX0_numberAt) := goodIn_app (goodIn_of _ (by decide +kernel)) ggX4_at_X0_numberAt
theorem dX4_at_0 : decode cX4_at 0 = .ok (.aload_n 0, 1) := by decide +kernel
theorem dX4_at_1 : decode cX4_at 1 = .ok (.iload_n 1, 1) := by decide +kernel
theorem dX4_at_2 : decode cX4_at 2 = .ok (.invokevirtual 56, 3) := by decide +kernel
theorem dX4_at_5 : decode cX4_at 5 = .ok (.ifCond .ne 5, 3) := by decide +kernel
theorem dX4_at_8 : decode cX4_at 8 = .ok (.iconst (-1), 1) := by decide +kernel
theorem dX4_at_9 : decode cX4_at 9 = .ok (.ireturn, 1) := by decide +kernel
theorem dX4_at_10 : decode cX4_at 10 = .ok (.iload_n 2, 1) := by decide +kernel
theorem dX4_at_11 : decode cX4_at 11 = .ok (.ifCond .ge 6, 3) := by decide +kernel
theorem dX4_at_14 : decode cX4_at 14 = .ok (.bipush (-2), 2) := by decide +kernel
theorem dX4_at_16 : decode cX4_at 16 = .ok (.ireturn, 1) := by decide +kernel
theorem dX4_at_17 : decode cX4_at 17 = .ok (.aload_n 0, 1) := by decide +kernel
theorem dX4_at_18 : decode cX4_at 18 = .ok (.getfield 10, 3) := by decide +kernel
theorem dX4_at_21 : decode cX4_at 21 = .ok (.getfield 60, 3) := by decide +kernel
theorem dX4_at_24 : decode cX4_at 24 = .ok (.iload_n 1, 1) := by decide +kernel
theorem dX4_at_25 : decode cX4_at 25 = .ok (.aaload, 1) := by decide +kernel
theorem dX4_at_26 : decode cX4_at 26 = .ok (.iload_n 2, 1) := by decide +kernel
theorem dX4_at_27 : decode cX4_at 27 = .ok (.invokevirtual 156, 3) := by decide +kernel
theorem dX4_at_30 : decode cX4_at 30 = .ok (.ireturn, 1) := by decide +kernel
set_option maxRecDepth 20000 in
theorem ggX4_next_X4_isSet : GoodIn wsX4_next wsX4_isSet := goodIn_r _ [7, 1, 8, 36, 37, 38, 39, 40, 41, 42, 43] (by decide +kernel) (by decide +kernel)
set_option maxRecDepth 20000 in
theorem gX4_next_X4_isSet : GoodIn wsX4_next (wsV RX4 56 RX4 yX4_isSet wsX4_isSet) := goodIn_app (goodIn_of _ (by decide +kernel)) ggX4_next_X4_isSet
set_option maxRecDepth 20000 in
theorem ggX4_next_X4_isNumber : GoodIn wsX4_next wsX4_isNumber := goodIn_r _ [11] (by decide +kernel) (by decide +kernel)
set_option maxRecDepth 20000 in
theorem gX4_next_X4_isNumber : GoodIn wsX4_next (va_wsS RX4 141 yX4_isNumber wsX4_isNumber) := goodIn_app (goodIn_of _ (by decide +kernel)) ggX4_next_X4_isNumber
set_option maxRecDepth 20000 in
theorem ggX4_next_X0_firstFrom : GoodIn wsX4_next wsX0_firstFrom := goodIn_r _ [16, 17, 18, 19, 15, 20, 21, 10, 6, 11, 22, 23, 24, 25, 26, 27, 28, 29, 30, 31, 32, 33, 34, 35, 44, 45, 46, 47, 48, 49, 50] (by decide +kernel) (by decide +kernel)
set_option maxRecDepth 20000 in
theorem gX4_next_X0_firstFrom : GoodIn wsX4_next (wsV RX4 177 RX0 yX0_firstFrom wsX0_firstFrom) := goodIn_app (goodIn_of _ (by decide +kernel)) ggX4_next_X0_firstFrom
theorem dX4_next_0 : decode cX4_next 0 = .ok (.aload_n 0, 1) := by decide +kernel
theorem dX4_next_1 : decode cX4_next 1 = .ok (.iload_n 1, 1) := by decide +kernel
theorem dX4_next_2 : decode cX4_next 2 = .ok (.invokevirtual 56, 3) := by decide +kernel
theorem dX4_next_5 : decode cX4_next 5 = .ok (.ifCond .ne 5, 3) := by decide +kernel
theorem dX4_next_8 : decode cX4_next 8 = .ok (.iconst (-1), 1) := by decide +kernel
theorem dX4_next_9 : decode cX4_next 9 = .ok (.ireturn, 1) := by decide +kernel
theorem dX4_next_10 : decode cX4_next 10 = .ok (.iload_n 2, 1) := by decide +kernel
theorem dX4_next_11 : decode cX4_next 11 = .ok (.invokestatic 141, 3) := by decide +kernel
theorem dX4_next_14 : decode cX4_next 14 = .ok (.ifCond .ne 6, 3) := by decide +kernel
theorem dX4_next_17 : decode cX4_next 17 = .ok (.bipush (-2), 2) := by decide +kernel
theorem dX4_next_19 : decode cX4_next 19 = .ok (.ireturn, 1) := by decide +kernel
theorem dX4_next_20 : decode cX4_next 20 = .ok (.aload_n 0, 1) := by decide +kernel
theorem dX4_next_21 : decode cX4_next 21 = .ok (.getfield 10, 3) := by decide +kernel
theorem dX4_next_24 : decode cX4_next 24 = .ok (.getfield 60, 3) := by decide +kernel
theorem dX4_next_27 : decode cX4_next 27 = .ok (.iload_n 1, 1) := by decide +kernel
theorem dX4_next_28 : decode cX4_next 28 = .ok (.aaload, 1) := by decide +kernel
theorem dX4_next_29 : decode cX4_next 29 = .ok (.iload_n 2, 1) := by decide +kernel
theorem dX4_next_30 : decode cX4_next 30 = .ok (.invokevirtual 177, 3) := by decide +kernel
theorem dX4_next_33 : decode cX4_next 33 = .ok (.ireturn, 1) := by decide +kernel
set_option maxRecDepth 20000 in
theorem ggX4_nearest_X4_isSet : GoodIn wsX4_nearest wsX4_isSet := goodIn_r _ [7, 1, 8, 38, 39, 40, 41, 42, 43, 44, 45] (by decide +kernel) (by decide +kernel)
set_option maxRecDepth 20000 in
theorem gX4_nearest_X4_isSet : GoodIn wsX4_nearest (wsV RX4 56 RX4 yX4_isSet wsX4_isSet) := goodIn_app (goodIn_of _ (by decide +kernel)) ggX4_nearest_X4_isSet
set_option maxRecDepth 20000 in
theorem ggX4_nearest_X4_isNumber : GoodIn wsX4_nearest wsX4_isNumber := goodIn_r _ [11] (by decide +kernel) (by decide +kernel)
set_option maxRecDepth 20000 in
theorem gX4_nearest_X4_isNumber : GoodIn wsX4_nearest (va_wsS RX4 141 yX4_isNumber wsX4_isNumber) := goodIn_app (goodIn_of _ (by decide +kernel)) ggX4_nearest_X4_isNumber
set_option maxRecDepth 20000 in
theorem ggX4_nearest_X0_numbersBelow : GoodIn wsX4_nearest wsX0_numbersBelow := goodIn_r _ [16, 17, 10, 6, 11, 18, 19, 20, 21, 22, 23, 24, 46, 47, 48, 49, 50, 51, 52] (by decide +kernel) (by decide +kernel)
set_option maxRecDepth 20000 in
theorem gX4_nearest_X0_numbersBelow : GoodIn wsX4_nearest (wsV RX4 174 RX0 yX0_numbersBelow wsX0_numbersBelow) := goodIn_app (goodIn_of _ (by decide +kernel)) ggX4_nearest_X0_numbersBelow
set_option maxRecDepth 20000 in
theorem ggX4_nearest_X0_numberAt : GoodIn wsX4_nearest wsX0_numberAt := goodIn_r _ [28, 17, 18, 19, 20, 21, 22, 23, 24, 29, 30, 15, 31, 46, 47, 48, 49, 50, 51, 52] (by decide +kernel) (by decide +kernel)
set_option maxRecDepth 20000 in
theorem gX4_nearest_X0_numberAt : GoodIn wsX4_nearest (wsV RX4 156 RX0 yX0_numberAt wsX0_numberAt) := goodIn_app (goodIn_of _ (by decide +kernel)) ggX4_nearest_X0_numberAt
set_option maxRecDepth 20000 in
theorem ggX4_nearest_X0_firstFrom : GoodIn wsX4_nearest wsX0_firstFrom := goodIn_r _ [35, 36, 13, 14, 15, 16, 17, 10, 6, 11, 18, 19, 20, 21, 22, 23, 24, 37, 26, 27, 28, 29, 30, 31, 46, 47, 48, 49, 50, 51, 52] (by decide +kernel) (by decide +kernel)
set_option maxRecDepth 20000 in
theorem gX4_nearest_X0_firstFrom : GoodIn wsX4_nearest (wsV RX4 177 RX0 yX0_firstFrom wsX0_firstFrom) := goodIn_app (goodIn_of _ (by decide +kernel)) ggX4_nearest_X0_firstFrom
theorem dX4_nearest_0 : decode cX4_nearest 0 = .ok (.aload_n 0, 1) := by decide +kernel
theorem dX4_nearest_1 : decode cX4_nearest 1 = .ok (.iload_n 1, 1) := by decide +kernel
theorem dX4_nearest_2 : decode cX4_nearest 2 = .ok (.invokevirtual 56, 3) := by decide +kernel
theorem dX4_nearest_5 : decode cX4_nearest 5 = .ok (.ifCond .ne 5, 3) := by decide +kernel
theorem dX4_nearest_8 : decode cX4_nearest 8 = .ok (.iconst (-1), 1) := by decide +kernel
theorem dX4_nearest_9 : decode cX4_nearest 9 = .ok (.ireturn, 1) := by decide +kernel
theorem dX4_nearest_10 : decode cX4_nearest 10 = .ok (.iload_n 2, 1) := by decide +kernel
theorem dX4_nearest_11 : decode cX4_nearest 11 = .ok (.invokestatic 141, 3) := by decide +kernel
theorem dX4_nearest_14 : decode cX4_nearest 14 = .ok (.ifCond .ne 6, 3) := by decide +kernel
theorem dX4_nearest_17 : decode cX4_nearest 17 = .ok (.bipush (-2), 2) := by decide +kernel
theorem dX4_nearest_19 : decode cX4_nearest 19 = .ok (.ireturn, 1) := by decide +kernel
theorem dX4_nearest_20 : decode cX4_nearest 20 = .ok (.aload_n 0, 1) := by decide +kernel
theorem dX4_nearest_21 : decode cX4_nearest 21 = .ok (.getfield 10, 3) := by decide +kernel
theorem dX4_nearest_24 : decode cX4_nearest 24 = .ok (.getfield 60, 3) := by decide +kernel
theorem dX4_nearest_27 : decode cX4_nearest 27 = .ok (.iload_n 1, 1) := by decide +kernel
theorem dX4_nearest_28 : decode cX4_nearest 28 = .ok (.aaload, 1) := by decide +kernel
theorem dX4_nearest_29 : decode cX4_nearest 29 = .ok (.astore_n 3, 1) := by decide +kernel
theorem dX4_nearest_30 : decode cX4_nearest 30 = .ok (.aload_n 3, 1) := by decide +kernel
theorem dX4_nearest_31 : decode cX4_nearest 31 = .ok (.aload_n 3, 1) := by decide +kernel
theorem dX4_nearest_32 : decode cX4_nearest 32 = .ok (.iload_n 2, 1) := by decide +kernel
theorem dX4_nearest_33 : decode cX4_nearest 33 = .ok (.invokevirtual 174, 3) := by decide +kernel
theorem dX4_nearest_36 : decode cX4_nearest 36 = .ok (.iconst 1, 1) := by decide +kernel
theorem dX4_nearest_37 : decode cX4_nearest 37 = .ok (.isub, 1) := by decide +kernel
theorem dX4_nearest_38 : decode cX4_nearest 38 = .ok (.invokevirtual 156, 3) := by decide +kernel
theorem dX4_nearest_41 : decode cX4_nearest 41 = .ok (.istore 4, 2) := by decide +kernel
theorem dX4_nearest_43 : decode cX4_nearest 43 = .ok (.aload_n 3, 1) := by decide +kernel
theorem dX4_nearest_44 : decode cX4_nearest 44 = .ok (.iload_n 2, 1) := by decide +kernel
theorem dX4_nearest_45 : decode cX4_nearest 45 = .ok (.invokevirtual 177, 3) := by decide +kernel
theorem dX4_nearest_48 : decode cX4_nearest 48 = .ok (.istore 5, 2) := by decide +kernel
theorem dX4_nearest_50 : decode cX4_nearest 50 = .ok (.iload 4, 2) := by decide +kernel
theorem dX4_nearest_52 : decode cX4_nearest 52 = .ok (.bipush (-5), 2) := by decide +kernel
theorem dX4_nearest_54 : decode cX4_nearest 54 = .ok (.if_icmp .ne 6, 3) := by decide +kernel
theorem dX4_nearest_57 : decode cX4_nearest 57 = .ok (.iload 5, 2) := by decide +kernel
theorem dX4_nearest_59 : decode cX4_nearest 59 = .ok (.ireturn, 1) := by decide +kernel
theorem dX4_nearest_60 : decode cX4_nearest 60 = .ok (.iload 5, 2) := by decide +kernel
theorem dX4_nearest_62 : decode cX4_nearest 62 = .ok (.bipush (-5), 2) := by decide +kernel
theorem dX4_nearest_64 : decode cX4_nearest 64 = .ok (.if_icmp .ne 6, 3) := by decide +kernel
theorem dX4_nearest_67 : decode cX4_nearest 67 = .ok (.iload 4, 2) := by decide +kernel
theorem dX4_nearest_69 : decode cX4_nearest 69 = .ok (.ireturn, 1) := by decide +kernel
theorem dX4_nearest_70 : decode cX4_nearest 70 = .ok (.iload 5, 2) := by decide +kernel
theorem dX4_nearest_72 : decode cX4_nearest 72 = .ok (.iload_n 2, 1) := by decide +kernel
theorem dX4_nearest_73 : decode cX4_nearest 73 = .ok (.isub, 1) := by decide +kernel
theorem dX4_nearest_74 : decode cX4_nearest 74 = .ok (.iload_n 2, 1) := by decide +kernel
theorem dX4_nearest_75 : decode cX4_nearest 75 = .ok (.iload 4, 2) := by decide +kernel
theorem dX4_nearest_77 : decode cX4_nearest 77 = .ok (.isub, 1) := by decide +kernel
theorem dX4_nearest_78 : decode cX4_nearest 78 = .ok (.if_icmp .ge 8, 3) := by decide +kernel
theorem dX4_nearest_81 : decode cX4_nearest 81 = .ok (.iload 5, 2) := by decide +kernel
theorem dX4_nearest_83 : decode cX4_nearest 83 = .ok (.goto 5, 3) := by decide +kernel
theorem dX4_nearest_86 : decode cX4_nearest 86 = .ok (.iload 4, 2) := by decide +kernel
theorem dX4_nearest_88 : decode cX4_nearest 88 = .ok (.ireturn, 1) := by decide +kernel
set_option maxRecDepth 20000 in
theorem ggX4_gap_X4_isSet : GoodIn wsX4_gap wsX4_isSet := goodIn_r _ [7, 1, 8, 21, 22, 23, 24, 25, 26, 27, 28] (by decide +kernel) (by decide +kernel)
set_option maxRecDepth 20000 in
theorem gX4_gap_X4_isSet : GoodIn wsX4_gap (wsV RX4 56 RX4 yX4_isSet wsX4_isSet) := goodIn_app (goodIn_of _ (by decide +kernel)) ggX4_gap_X4_isSet
set_option maxRecDepth 20000 in
theorem ggX4_gap_X0_firstGap : GoodIn wsX4_gap wsX0_firstGap := goodIn_r _ [13, 14, 15, 16, 12, 17, 18, 19, 6, 20, 29, 30, 31, 32, 33, 34, 35] (by decide +kernel) (by decide +kernel)
set_option maxRecDepth 20000 in
theorem gX4_gap_X0_firstGap : GoodIn wsX4_gap (wsV RX4 180 RX0 yX0_firstGap wsX0_firstGap) := goodIn_app (goodIn_of _ (by decide +kernel)) ggX4_gap_X0_firstGap
theorem dX4_gap_0 : decode cX4_gap 0 = .ok (.aload_n 0, 1) := by decide +kernel
theorem dX4_gap_1 : decode cX4_gap 1 = .ok (.iload_n 1, 1) := by decide +kernel
theorem dX4_gap_2 : decode cX4_gap 2 = .ok (.invokevirtual 56, 3) := by decide +kernel
theorem dX4_gap_5 : decode cX4_gap 5 = .ok (.ifCond .ne 5, 3) := by decide +kernel
theorem dX4_gap_8 : decode cX4_gap 8 = .ok (.iconst (-1), 1) := by decide +kernel
theorem dX4_gap_9 : decode cX4_gap 9 = .ok (.ireturn, 1) := by decide +kernel
theorem dX4_gap_10 : decode cX4_gap 10 = .ok (.iload_n 2, 1) := by decide +kernel
theorem dX4_gap_11 : decode cX4_gap 11 = .ok (.iconst 1, 1) := by decide +kernel
theorem dX4_gap_12 : decode cX4_gap 12 = .ok (.if_icmp .lt 10, 3) := by decide +kernel
theorem dX4_gap_15 : decode cX4_gap 15 = .ok (.iload_n 2, 1) := by decide +kernel
theorem dX4_gap_16 : decode cX4_gap 16 = .ok (.sipush 2048, 3) := by decide +kernel
theorem dX4_gap_19 : decode cX4_gap 19 = .ok (.if_icmp .le 6, 3) := by decide +kernel
theorem dX4_gap_22 : decode cX4_gap 22 = .ok (.bipush (-2), 2) := by decide +kernel
theorem dX4_gap_24 : decode cX4_gap 24 = .ok (.ireturn, 1) := by decide +kernel
theorem dX4_gap_25 : decode cX4_gap 25 = .ok (.aload_n 0, 1) := by decide +kernel
theorem dX4_gap_26 : decode cX4_gap 26 = .ok (.getfield 10, 3) := by decide +kernel
theorem dX4_gap_29 : decode cX4_gap 29 = .ok (.getfield 60, 3) := by decide +kernel
theorem dX4_gap_32 : decode cX4_gap 32 = .ok (.iload_n 1, 1) := by decide +kernel
theorem dX4_gap_33 : decode cX4_gap 33 = .ok (.aaload, 1) := by decide +kernel
theorem dX4_gap_34 : decode cX4_gap 34 = .ok (.iload_n 2, 1) := by decide +kernel
theorem dX4_gap_35 : decode cX4_gap 35 = .ok (.invokevirtual 180, 3) := by decide +kernel
theorem dX4_gap_38 : decode cX4_gap 38 = .ok (.ireturn, 1) := by decide +kernel
set_option maxRecDepth 20000 in
theorem ggX4_sizeOf_X4_isSet : GoodIn wsX4_sizeOf wsX4_isSet := goodIn_r _ [8, 1, 9, 24, 25, 26, 27, 28, 29, 30, 31] (by decide +kernel) (by decide +kernel)
set_option maxRecDepth 20000 in
theorem gX4_sizeOf_X4_isSet : GoodIn wsX4_sizeOf (wsV RX4 56 RX4 yX4_isSet wsX4_isSet) := goodIn_app (goodIn_of _ (by decide +kernel)) ggX4_sizeOf_X4_isSet
set_option maxRecDepth 20000 in
theorem ggX4_sizeOf_X4_isHow : GoodIn wsX4_sizeOf wsX4_isHow := goodIn_r _ [12] (by decide +kernel) (by decide +kernel)
set_option maxRecDepth 20000 in
theorem gX4_sizeOf_X4_isHow : GoodIn wsX4_sizeOf (va_wsS RX4 88 yX4_isHow wsX4_isHow) := goodIn_app (goodIn_of _ (by decide +kernel)) ggX4_sizeOf_X4_isHow
set_option maxRecDepth 20000 in
theorem ggX4_sizeOf_X4_join : GoodIn wsX4_sizeOf wsX4_join := goodIn_r _ [15, 16] (by decide +kernel) (by decide +kernel)
set_option maxRecDepth 20000 in
theorem gX4_sizeOf_X4_join : GoodIn wsX4_sizeOf (va_wsS RX4 187 yX4_join wsX4_join) := goodIn_app (goodIn_of _ (by decide +kernel)) ggX4_sizeOf_X4_join
set_option maxRecDepth 20000 in
theorem ggX4_sizeOf_J13_bitCount_95d88 : GoodIn wsX4_sizeOf wsJ13_bitCount_95d88 := goodIn_r _ [20, 21, 22, 23] (by decide +kernel) (by decide +kernel)
set_option maxRecDepth 20000 in
theorem gX4_sizeOf_J13_bitCount_95d88 : GoodIn wsX4_sizeOf (va_wsS RX4 191 yJ13_bitCount_95d88 wsJ13_bitCount_95d88) := goodIn_app (goodIn_of _ (by decide +kernel)) ggX4_sizeOf_J13_bitCount_95d88
theorem dX4_sizeOf_0 : decode cX4_sizeOf 0 = .ok (.aload_n 0, 1) := by decide +kernel
theorem dX4_sizeOf_1 : decode cX4_sizeOf 1 = .ok (.iload_n 2, 1) := by decide +kernel
theorem dX4_sizeOf_2 : decode cX4_sizeOf 2 = .ok (.invokevirtual 56, 3) := by decide +kernel
theorem dX4_sizeOf_5 : decode cX4_sizeOf 5 = .ok (.ifCond .eq 11, 3) := by decide +kernel
theorem dX4_sizeOf_8 : decode cX4_sizeOf 8 = .ok (.aload_n 0, 1) := by decide +kernel
theorem dX4_sizeOf_9 : decode cX4_sizeOf 9 = .ok (.iload_n 3, 1) := by decide +kernel
theorem dX4_sizeOf_10 : decode cX4_sizeOf 10 = .ok (.invokevirtual 56, 3) := by decide +kernel
theorem dX4_sizeOf_13 : decode cX4_sizeOf 13 = .ok (.ifCond .ne 5, 3) := by decide +kernel
theorem dX4_sizeOf_16 : decode cX4_sizeOf 16 = .ok (.iconst (-1), 1) := by decide +kernel
theorem dX4_sizeOf_17 : decode cX4_sizeOf 17 = .ok (.ireturn, 1) := by decide +kernel
theorem dX4_sizeOf_18 : decode cX4_sizeOf 18 = .ok (.iload_n 1, 1) := by decide +kernel
theorem dX4_sizeOf_19 : decode cX4_sizeOf 19 = .ok (.invokestatic 88, 3) := by decide +kernel
theorem dX4_sizeOf_22 : decode cX4_sizeOf 22 = .ok (.ifCond .ne 6, 3) := by decide +kernel
theorem dX4_sizeOf_25 : decode cX4_sizeOf 25 = .ok (.bipush (-2), 2) := by decide +kernel
theorem dX4_sizeOf_27 : decode cX4_sizeOf 27 = .ok (.ireturn, 1) := by decide +kernel
theorem dX4_sizeOf_28 : decode cX4_sizeOf 28 = .ok (.iconst 0, 1) := by decide +kernel
theorem dX4_sizeOf_29 : decode cX4_sizeOf 29 = .ok (.istore 4, 2) := by decide +kernel
theorem dX4_sizeOf_31 : decode cX4_sizeOf 31 = .ok (.iconst 0, 1) := by decide +kernel
theorem dX4_sizeOf_32 : decode cX4_sizeOf 32 = .ok (.istore 5, 2) := by decide +kernel
theorem dX4_sizeOf_34 : decode cX4_sizeOf 34 = .ok (.iload 5, 2) := by decide +kernel
theorem dX4_sizeOf_36 : decode cX4_sizeOf 36 = .ok (.bipush 32, 2) := by decide +kernel
theorem dX4_sizeOf_38 : decode cX4_sizeOf 38 = .ok (.if_icmp .ge 51, 3) := by decide +kernel
theorem dX4_sizeOf_41 : decode cX4_sizeOf 41 = .ok (.iload 4, 2) := by decide +kernel
theorem dX4_sizeOf_43 : decode cX4_sizeOf 43 = .ok (.iload_n 1, 1) := by decide +kernel
theorem dX4_sizeOf_44 : decode cX4_sizeOf 44 = .ok (.aload_n 0, 1) := by decide +kernel
theorem dX4_sizeOf_45 : decode cX4_sizeOf 45 = .ok (.getfield 10, 3) := by decide +kernel
theorem dX4_sizeOf_48 : decode cX4_sizeOf 48 = .ok (.getfield 60, 3) := by decide +kernel
theorem dX4_sizeOf_51 : decode cX4_sizeOf 51 = .ok (.iload_n 2, 1) := by decide +kernel
theorem dX4_sizeOf_52 : decode cX4_sizeOf 52 = .ok (.aaload, 1) := by decide +kernel
theorem dX4_sizeOf_53 : decode cX4_sizeOf 53 = .ok (.getfield 183, 3) := by decide +kernel
theorem dX4_sizeOf_56 : decode cX4_sizeOf 56 = .ok (.iload 5, 2) := by decide +kernel
theorem dX4_sizeOf_58 : decode cX4_sizeOf 58 = .ok (.laload, 1) := by decide +kernel
theorem dX4_sizeOf_59 : decode cX4_sizeOf 59 = .ok (.aload_n 0, 1) := by decide +kernel
theorem dX4_sizeOf_60 : decode cX4_sizeOf 60 = .ok (.getfield 10, 3) := by decide +kernel
theorem dX4_sizeOf_63 : decode cX4_sizeOf 63 = .ok (.getfield 60, 3) := by decide +kernel
theorem dX4_sizeOf_66 : decode cX4_sizeOf 66 = .ok (.iload_n 3, 1) := by decide +kernel
theorem dX4_sizeOf_67 : decode cX4_sizeOf 67 = .ok (.aaload, 1) := by decide +kernel
theorem dX4_sizeOf_68 : decode cX4_sizeOf 68 = .ok (.getfield 183, 3) := by decide +kernel
theorem dX4_sizeOf_71 : decode cX4_sizeOf 71 = .ok (.iload 5, 2) := by decide +kernel
theorem dX4_sizeOf_73 : decode cX4_sizeOf 73 = .ok (.laload, 1) := by decide +kernel
theorem dX4_sizeOf_74 : decode cX4_sizeOf 74 = .ok (.invokestatic 187, 3) := by decide +kernel
theorem dX4_sizeOf_77 : decode cX4_sizeOf 77 = .ok (.invokestatic 191, 3) := by decide +kernel
theorem dX4_sizeOf_80 : decode cX4_sizeOf 80 = .ok (.iadd, 1) := by decide +kernel
theorem dX4_sizeOf_81 : decode cX4_sizeOf 81 = .ok (.istore 4, 2) := by decide +kernel
theorem dX4_sizeOf_83 : decode cX4_sizeOf 83 = .ok (.iinc 5 1, 3) := by decide +kernel
theorem dX4_sizeOf_86 : decode cX4_sizeOf 86 = .ok (.goto (-52), 3) := by decide +kernel
theorem dX4_sizeOf_89 : decode cX4_sizeOf 89 = .ok (.iload 4, 2) := by decide +kernel
theorem dX4_sizeOf_91 : decode cX4_sizeOf 91 = .ok (.ireturn, 1) := by decide +kernel
set_option maxRecDepth 20000 in
theorem ggX4_ofAll_X1_numberOfAll : GoodIn wsX4_ofAll wsX1_numberOfAll := goodIn_r _ [6, 7, 8, 9, 5, 10, 11, 12, 13, 14, 15, 16, 17, 18, 19, 20, 21, 22, 23, 24, 25, 26, 33, 34, 35, 36, 37, 38, 39, 40, 41] (by decide +kernel) (by decide +kernel)
set_option maxRecDepth 20000 in
theorem gX4_ofAll_X1_numberOfAll : GoodIn wsX4_ofAll (wsV RX4 197 RX1 yX1_numberOfAll wsX1_numberOfAll) := goodIn_app (goodIn_of _ (by decide +kernel)) ggX4_ofAll_X1_numberOfAll
theorem dX4_ofAll_0 : decode cX4_ofAll 0 = .ok (.iload_n 1, 1) := by decide +kernel
theorem dX4_ofAll_1 : decode cX4_ofAll 1 = .ok (.ifCond .ge 6, 3) := by decide +kernel
theorem dX4_ofAll_4 : decode cX4_ofAll 4 = .ok (.bipush (-2), 2) := by decide +kernel
theorem dX4_ofAll_6 : decode cX4_ofAll 6 = .ok (.ireturn, 1) := by decide +kernel
theorem dX4_ofAll_7 : decode cX4_ofAll 7 = .ok (.aload_n 0, 1) := by decide +kernel
theorem dX4_ofAll_8 : decode cX4_ofAll 8 = .ok (.getfield 10, 3) := by decide +kernel
theorem dX4_ofAll_11 : decode cX4_ofAll 11 = .ok (.iload_n 1, 1) := by decide +kernel
theorem dX4_ofAll_12 : decode cX4_ofAll 12 = .ok (.invokevirtual 197, 3) := by decide +kernel
theorem dX4_ofAll_15 : decode cX4_ofAll 15 = .ok (.ireturn, 1) := by decide +kernel
set_option maxRecDepth 20000 in
theorem ggX4_most_X1_mostHeld : GoodIn wsX4_most wsX1_mostHeld := goodIn_r _ [6, 7, 8, 9, 5, 10, 11, 12, 13, 14, 15, 16, 17, 18, 19, 20, 21, 22, 23, 24, 25, 26, 33, 34, 35, 36, 37, 38, 39, 40, 41] (by decide +kernel) (by decide +kernel)
set_option maxRecDepth 20000 in
theorem gX4_most_X1_mostHeld : GoodIn wsX4_most (wsV RX4 200 RX1 yX1_mostHeld wsX1_mostHeld) := goodIn_app (goodIn_of _ (by decide +kernel)) ggX4_most_X1_mostHeld
theorem dX4_most_0 : decode cX4_most 0 = .ok (.aload_n 0, 1) := by decide +kernel
theorem dX4_most_1 : decode cX4_most 1 = .ok (.getfield 10, 3) := by decide +kernel
theorem dX4_most_4 : decode cX4_most 4 = .ok (.invokevirtual 200, 3) := by decide +kernel
theorem dX4_most_7 : decode cX4_most 7 = .ok (.ireturn, 1) := by decide +kernel
set_option maxRecDepth 20000 in
theorem ggX4_tollToDock_X4_isSet : GoodIn wsX4_tollToDock wsX4_isSet := goodIn_r _ [8, 2, 9, 50, 51, 52, 53, 54, 55, 56, 57] (by decide +kernel) (by decide +kernel)
set_option maxRecDepth 20000 in
theorem gX4_tollToDock_X4_isSet : GoodIn wsX4_tollToDock (wsV RX4 56 RX4 yX4_isSet wsX4_isSet) := goodIn_app (goodIn_of _ (by decide +kernel)) ggX4_tollToDock_X4_isSet
set_option maxRecDepth 20000 in
theorem ggX4_tollToDock_X0_copyFrom : GoodIn wsX4_tollToDock wsX0_copyFrom := goodIn_r _ [14, 15, 16, 17, 18, 19, 20, 21, 22, 23, 24, 25, 58, 59, 60, 61, 62, 63, 64] (by decide +kernel) (by decide +kernel)
set_option maxRecDepth 20000 in
theorem gX4_tollToDock_X0_copyFrom : GoodIn wsX4_tollToDock (wsV RX4 91 RX0 yX0_copyFrom wsX0_copyFrom) := goodIn_app (goodIn_of _ (by decide +kernel)) ggX4_tollToDock_X0_copyFrom
set_option maxRecDepth 20000 in
theorem ggX4_tollToDock_X0_enterHarbour : GoodIn wsX4_tollToDock wsX0_enterHarbour := goodIn_r _ [29, 25, 30, 31, 32, 13, 33, 20, 34, 35, 36, 37, 38, 39, 40, 41, 21, 22, 42, 43, 44, 45, 46, 47, 48, 49, 23, 24, 58, 59, 60, 61, 62, 63, 64] (by decide +kernel) (by decide +kernel)
set_option maxRecDepth 20000 in
theorem gX4_tollToDock_X0_enterHarbour : GoodIn wsX4_tollToDock (wsV RX4 74 RX0 yX0_enterHarbour wsX0_enterHarbour) := goodIn_app (goodIn_of _ (by decide +kernel)) ggX4_tollToDock_X0_enterHarbour
theorem dX4_tollToDock_0 : decode cX4_tollToDock 0 = .ok (.aload_n 0, 1) := by decide +kernel
theorem dX4_tollToDock_1 : decode cX4_tollToDock 1 = .ok (.iload_n 1, 1) := by decide +kernel
theorem dX4_tollToDock_2 : decode cX4_tollToDock 2 = .ok (.invokevirtual 56, 3) := by decide +kernel
theorem dX4_tollToDock_5 : decode cX4_tollToDock 5 = .ok (.ifCond .ne 5, 3) := by decide +kernel
theorem dX4_tollToDock_8 : decode cX4_tollToDock 8 = .ok (.iconst (-1), 1) := by decide +kernel
theorem dX4_tollToDock_9 : decode cX4_tollToDock 9 = .ok (.ireturn, 1) := by decide +kernel
theorem dX4_tollToDock_10 : decode cX4_tollToDock 10 = .ok (.aload_n 0, 1) := by decide +kernel
theorem dX4_tollToDock_11 : decode cX4_tollToDock 11 = .ok (.getfield 36, 3) := by decide +kernel
theorem dX4_tollToDock_14 : decode cX4_tollToDock 14 = .ok (.aload_n 0, 1) := by decide +kernel
theorem dX4_tollToDock_15 : decode cX4_tollToDock 15 = .ok (.getfield 10, 3) := by decide +kernel
theorem dX4_tollToDock_18 : decode cX4_tollToDock 18 = .ok (.getfield 60, 3) := by decide +kernel
theorem dX4_tollToDock_21 : decode cX4_tollToDock 21 = .ok (.iload_n 1, 1) := by decide +kernel
theorem dX4_tollToDock_22 : decode cX4_tollToDock 22 = .ok (.aaload, 1) := by decide +kernel
theorem dX4_tollToDock_23 : decode cX4_tollToDock 23 = .ok (.invokevirtual 91, 3) := by decide +kernel
theorem dX4_tollToDock_26 : decode cX4_tollToDock 26 = .ok (.aload_n 0, 1) := by decide +kernel
theorem dX4_tollToDock_27 : decode cX4_tollToDock 27 = .ok (.getfield 36, 3) := by decide +kernel
theorem dX4_tollToDock_30 : decode cX4_tollToDock 30 = .ok (.invokevirtual 74, 3) := by decide +kernel
theorem dX4_tollToDock_33 : decode cX4_tollToDock 33 = .ok (.ireturn, 1) := by decide +kernel
set_option maxRecDepth 20000 in
theorem ggX4_count_X1_setsAtSea : GoodIn wsX4_count wsX1_setsAtSea := goodIn_r _ [11, 12, 13, 14, 74, 75, 83, 84, 85, 86, 87, 88, 89] (by decide +kernel) (by decide +kernel)
set_option maxRecDepth 20000 in
theorem gX4_count_X1_setsAtSea : GoodIn wsX4_count (wsV RX4 203 RX1 yX1_setsAtSea wsX1_setsAtSea) := goodIn_app (goodIn_of _ (by decide +kernel)) ggX4_count_X1_setsAtSea
set_option maxRecDepth 20000 in
theorem ggX4_count_X1_boatsOfKind : GoodIn wsX4_count wsX1_boatsOfKind := goodIn_r _ [18, 12, 13, 19, 20, 21, 22, 23, 24, 25, 74, 75, 83, 84, 85, 86, 87, 88, 89] (by decide +kernel) (by decide +kernel)
set_option maxRecDepth 20000 in
theorem gX4_count_X1_boatsOfKind : GoodIn wsX4_count (wsV RX4 206 RX1 yX1_boatsOfKind wsX1_boatsOfKind) := goodIn_app (goodIn_of _ (by decide +kernel)) ggX4_count_X1_boatsOfKind
set_option maxRecDepth 20000 in
theorem ggX4_count_X1_units : GoodIn wsX4_count wsX1_units := goodIn_r _ [29, 12, 13, 30, 31, 32, 22, 33, 25, 34, 35, 36, 37, 24, 38, 74, 75, 83, 84, 85, 86, 87, 88, 89] (by decide +kernel) (by decide +kernel)
set_option maxRecDepth 20000 in
theorem gX4_count_X1_units : GoodIn wsX4_count (wsV RX4 209 RX1 yX1_units wsX1_units) := goodIn_app (goodIn_of _ (by decide +kernel)) ggX4_count_X1_units
set_option maxRecDepth 20000 in
theorem ggX4_count_X1_numbers : GoodIn wsX4_count wsX1_numbers := goodIn_r _ [42, 12, 13, 43, 44, 45, 22, 46, 24, 74, 75, 83, 84, 85, 86, 87, 88, 89] (by decide +kernel) (by decide +kernel)
set_option maxRecDepth 20000 in
theorem gX4_count_X1_numbers : GoodIn wsX4_count (wsV RX4 210 RX1 yX1_numbers wsX1_numbers) := goodIn_app (goodIn_of _ (by decide +kernel)) ggX4_count_X1_numbers
set_option maxRecDepth 20000 in
theorem ggX4_count_X1_differentNumbers : GoodIn wsX4_count wsX1_differentNumbers := goodIn_r _ [50, 51, 52, 53, 10, 54, 12, 13, 55, 56, 57, 58, 59, 60, 61, 62, 74, 75, 83, 84, 85, 86, 87, 88, 89] (by decide +kernel) (by decide +kernel)
set_option maxRecDepth 20000 in
theorem gX4_count_X1_differentNumbers : GoodIn wsX4_count (wsV RX4 211 RX1 yX1_differentNumbers wsX1_differentNumbers) := goodIn_app (goodIn_of _ (by decide +kernel)) ggX4_count_X1_differentNumbers
set_option maxRecDepth 20000 in
theorem ggX4_count_X1_tollsPaid : GoodIn wsX4_count wsX1_tollsPaid := goodIn_r _ [66, 12, 13, 67, 74, 75, 83, 84, 85, 86, 87, 88, 89] (by decide +kernel) (by decide +kernel)
set_option maxRecDepth 20000 in
theorem gX4_count_X1_tollsPaid : GoodIn wsX4_count (wsV RX4 214 RX1 yX1_tollsPaid wsX1_tollsPaid) := goodIn_app (goodIn_of _ (by decide +kernel)) ggX4_count_X1_tollsPaid
theorem dX4_count_0 : decode cX4_count 0 = .ok (.iload_n 1, 1) := by decide +kernel
theorem dX4_count_1 : decode cX4_count 1 = .ok (.tableswitch 150 0 10 #[59, 67, 75, 84, 93, 102, 110, 118, 126, 134, 142], 59) := by decide +kernel
theorem dX4_count_60 : decode cX4_count 60 = .ok (.aload_n 0, 1) := by decide +kernel
theorem dX4_count_61 : decode cX4_count 61 = .ok (.getfield 10, 3) := by decide +kernel
theorem dX4_count_64 : decode cX4_count 64 = .ok (.getfield 44, 3) := by decide +kernel
theorem dX4_count_67 : decode cX4_count 67 = .ok (.ireturn, 1) := by decide +kernel
theorem dX4_count_68 : decode cX4_count 68 = .ok (.aload_n 0, 1) := by decide +kernel
theorem dX4_count_69 : decode cX4_count 69 = .ok (.getfield 10, 3) := by decide +kernel
theorem dX4_count_72 : decode cX4_count 72 = .ok (.invokevirtual 203, 3) := by decide +kernel
theorem dX4_count_75 : decode cX4_count 75 = .ok (.ireturn, 1) := by decide +kernel
theorem dX4_count_76 : decode cX4_count 76 = .ok (.aload_n 0, 1) := by decide +kernel
theorem dX4_count_77 : decode cX4_count 77 = .ok (.getfield 10, 3) := by decide +kernel
theorem dX4_count_80 : decode cX4_count 80 = .ok (.iconst 0, 1) := by decide +kernel
theorem dX4_count_81 : decode cX4_count 81 = .ok (.invokevirtual 206, 3) := by decide +kernel
theorem dX4_count_84 : decode cX4_count 84 = .ok (.ireturn, 1) := by decide +kernel
theorem dX4_count_85 : decode cX4_count 85 = .ok (.aload_n 0, 1) := by decide +kernel
theorem dX4_count_86 : decode cX4_count 86 = .ok (.getfield 10, 3) := by decide +kernel
theorem dX4_count_89 : decode cX4_count 89 = .ok (.iconst 1, 1) := by decide +kernel
theorem dX4_count_90 : decode cX4_count 90 = .ok (.invokevirtual 206, 3) := by decide +kernel
theorem dX4_count_93 : decode cX4_count 93 = .ok (.ireturn, 1) := by decide +kernel
theorem dX4_count_94 : decode cX4_count 94 = .ok (.aload_n 0, 1) := by decide +kernel
theorem dX4_count_95 : decode cX4_count 95 = .ok (.getfield 10, 3) := by decide +kernel
theorem dX4_count_98 : decode cX4_count 98 = .ok (.iconst 2, 1) := by decide +kernel
theorem dX4_count_99 : decode cX4_count 99 = .ok (.invokevirtual 206, 3) := by decide +kernel
theorem dX4_count_102 : decode cX4_count 102 = .ok (.ireturn, 1) := by decide +kernel
theorem dX4_count_103 : decode cX4_count 103 = .ok (.aload_n 0, 1) := by decide +kernel
theorem dX4_count_104 : decode cX4_count 104 = .ok (.getfield 10, 3) := by decide +kernel
theorem dX4_count_107 : decode cX4_count 107 = .ok (.invokevirtual 209, 3) := by decide +kernel
theorem dX4_count_110 : decode cX4_count 110 = .ok (.ireturn, 1) := by decide +kernel
theorem dX4_count_111 : decode cX4_count 111 = .ok (.aload_n 0, 1) := by decide +kernel
theorem dX4_count_112 : decode cX4_count 112 = .ok (.getfield 10, 3) := by decide +kernel
theorem dX4_count_115 : decode cX4_count 115 = .ok (.invokevirtual 210, 3) := by decide +kernel
theorem dX4_count_118 : decode cX4_count 118 = .ok (.ireturn, 1) := by decide +kernel
theorem dX4_count_119 : decode cX4_count 119 = .ok (.aload_n 0, 1) := by decide +kernel
theorem dX4_count_120 : decode cX4_count 120 = .ok (.getfield 10, 3) := by decide +kernel
theorem dX4_count_123 : decode cX4_count 123 = .ok (.invokevirtual 211, 3) := by decide +kernel
theorem dX4_count_126 : decode cX4_count 126 = .ok (.ireturn, 1) := by decide +kernel
theorem dX4_count_127 : decode cX4_count 127 = .ok (.aload_n 0, 1) := by decide +kernel
theorem dX4_count_128 : decode cX4_count 128 = .ok (.getfield 10, 3) := by decide +kernel
theorem dX4_count_131 : decode cX4_count 131 = .ok (.invokevirtual 214, 3) := by decide +kernel
theorem dX4_count_134 : decode cX4_count 134 = .ok (.ireturn, 1) := by decide +kernel
theorem dX4_count_135 : decode cX4_count 135 = .ok (.aload_n 0, 1) := by decide +kernel
theorem dX4_count_136 : decode cX4_count 136 = .ok (.getfield 22, 3) := by decide +kernel
theorem dX4_count_139 : decode cX4_count 139 = .ok (.getfield 133, 3) := by decide +kernel
theorem dX4_count_142 : decode cX4_count 142 = .ok (.ireturn, 1) := by decide +kernel
theorem dX4_count_143 : decode cX4_count 143 = .ok (.aload_n 0, 1) := by decide +kernel
theorem dX4_count_144 : decode cX4_count 144 = .ok (.getfield 29, 3) := by decide +kernel
theorem dX4_count_147 : decode cX4_count 147 = .ok (.getfield 102, 3) := by decide +kernel
theorem dX4_count_150 : decode cX4_count 150 = .ok (.ireturn, 1) := by decide +kernel
theorem dX4_count_151 : decode cX4_count 151 = .ok (.bipush (-2), 2) := by decide +kernel
theorem dX4_count_153 : decode cX4_count 153 = .ok (.ireturn, 1) := by decide +kernel
theorem dX4_isSet_0 : decode cX4_isSet 0 = .ok (.iload_n 1, 1) := by decide +kernel
theorem dX4_isSet_1 : decode cX4_isSet 1 = .ok (.ifCond .lt 18, 3) := by decide +kernel
theorem dX4_isSet_4 : decode cX4_isSet 4 = .ok (.iload_n 1, 1) := by decide +kernel
theorem dX4_isSet_5 : decode cX4_isSet 5 = .ok (.aload_n 0, 1) := by decide +kernel
theorem dX4_isSet_6 : decode cX4_isSet 6 = .ok (.getfield 10, 3) := by decide +kernel
theorem dX4_isSet_9 : decode cX4_isSet 9 = .ok (.getfield 44, 3) := by decide +kernel
theorem dX4_isSet_12 : decode cX4_isSet 12 = .ok (.if_icmp .ge 7, 3) := by decide +kernel
theorem dX4_isSet_15 : decode cX4_isSet 15 = .ok (.iconst 1, 1) := by decide +kernel
theorem dX4_isSet_16 : decode cX4_isSet 16 = .ok (.goto 4, 3) := by decide +kernel
theorem dX4_isSet_19 : decode cX4_isSet 19 = .ok (.iconst 0, 1) := by decide +kernel
theorem dX4_isSet_20 : decode cX4_isSet 20 = .ok (.ireturn, 1) := by decide +kernel
theorem dX4_isHow_0 : decode cX4_isHow 0 = .ok (.iload_n 0, 1) := by decide +kernel
theorem dX4_isHow_1 : decode cX4_isHow 1 = .ok (.ifCond .lt 12, 3) := by decide +kernel
theorem dX4_isHow_4 : decode cX4_isHow 4 = .ok (.iload_n 0, 1) := by decide +kernel
theorem dX4_isHow_5 : decode cX4_isHow 5 = .ok (.iconst 3, 1) := by decide +kernel
theorem dX4_isHow_6 : decode cX4_isHow 6 = .ok (.if_icmp .gt 7, 3) := by decide +kernel
theorem dX4_isHow_9 : decode cX4_isHow 9 = .ok (.iconst 1, 1) := by decide +kernel
theorem dX4_isHow_10 : decode cX4_isHow 10 = .ok (.goto 4, 3) := by decide +kernel
theorem dX4_isHow_13 : decode cX4_isHow 13 = .ok (.iconst 0, 1) := by decide +kernel
theorem dX4_isHow_14 : decode cX4_isHow 14 = .ok (.ireturn, 1) := by decide +kernel
set_option maxRecDepth 20000 in
theorem ggX4_moveRange_X4_isSet : GoodIn wsX4_moveRange wsX4_isSet := goodIn_r _ [8, 2, 9, 96, 97, 98, 99, 100, 101, 102, 103] (by decide +kernel) (by decide +kernel)
set_option maxRecDepth 20000 in
theorem gX4_moveRange_X4_isSet : GoodIn wsX4_moveRange (wsV RX4 56 RX4 yX4_isSet wsX4_isSet) := goodIn_app (goodIn_of _ (by decide +kernel)) ggX4_moveRange_X4_isSet
set_option maxRecDepth 20000 in
theorem ggX4_moveRange_X4_isNumber : GoodIn wsX4_moveRange wsX4_isNumber := goodIn_r _ [12] (by decide +kernel) (by decide +kernel)
set_option maxRecDepth 20000 in
theorem gX4_moveRange_X4_isNumber : GoodIn wsX4_moveRange (va_wsS RX4 141 yX4_isNumber wsX4_isNumber) := goodIn_app (goodIn_of _ (by decide +kernel)) ggX4_moveRange_X4_isNumber
set_option maxRecDepth 20000 in
theorem ggX4_moveRange_X0_copyFrom : GoodIn wsX4_moveRange wsX0_copyFrom := goodIn_r _ [17, 18, 19, 20, 21, 22, 23, 24, 25, 26, 27, 28, 104, 105, 106, 107, 108, 109, 110] (by decide +kernel) (by decide +kernel)
set_option maxRecDepth 20000 in
theorem gX4_moveRange_X0_copyFrom : GoodIn wsX4_moveRange (wsV RX4 91 RX0 yX0_copyFrom wsX0_copyFrom) := goodIn_app (goodIn_of _ (by decide +kernel)) ggX4_moveRange_X0_copyFrom
set_option maxRecDepth 20000 in
theorem ggX4_moveRange_X0_move : GoodIn wsX4_moveRange wsX0_move := goodIn_r _ [32, 33, 34, 35, 36, 37, 38, 39, 40, 41, 42, 16, 43, 18, 11, 7, 12, 44, 45, 46, 47, 24, 25, 48, 49, 50, 51, 52, 53, 54, 55, 23, 28, 56, 57, 58, 59, 26, 27, 60, 61, 62, 63, 64, 65, 66, 67, 68, 69, 70, 71, 104, 105, 106, 107, 108, 109, 110] (by decide +kernel) (by decide +kernel)
set_option maxRecDepth 20000 in
theorem gX4_moveRange_X0_move : GoodIn wsX4_moveRange (wsV RX4 125 RX0 yX0_move wsX0_move) := goodIn_app (goodIn_of _ (by decide +kernel)) ggX4_moveRange_X0_move
set_option maxRecDepth 20000 in
theorem ggX4_moveRange_X4_settleTrial : GoodIn wsX4_moveRange wsX4_settleTrial := goodIn_r _ [75, 76, 2, 3, 1, 77, 78, 79, 80, 81, 82, 83, 84, 85, 86, 87, 88, 89, 90, 91, 92, 93, 94, 95, 14, 15, 16, 17, 18, 19, 20, 21, 22, 23, 24, 25, 26, 27, 28, 13, 96, 97, 98, 99, 100, 101, 102, 103, 111, 112, 104, 105, 106, 107, 108, 109, 110] (by decide +kernel) (by decide +kernel)
set_option maxRecDepth 20000 in
theorem gX4_moveRange_X4_settleTrial : GoodIn wsX4_moveRange (wsV RX4 129 RX4 yX4_settleTrial wsX4_settleTrial) := goodIn_app (goodIn_of _ (by decide +kernel)) ggX4_moveRange_X4_settleTrial
theorem dX4_moveRange_0 : decode cX4_moveRange 0 = .ok (.aload_n 0, 1) := by decide +kernel
theorem dX4_moveRange_1 : decode cX4_moveRange 1 = .ok (.iload_n 1, 1) := by decide +kernel
theorem dX4_moveRange_2 : decode cX4_moveRange 2 = .ok (.invokevirtual 56, 3) := by decide +kernel
theorem dX4_moveRange_5 : decode cX4_moveRange 5 = .ok (.ifCond .ne 5, 3) := by decide +kernel
theorem dX4_moveRange_8 : decode cX4_moveRange 8 = .ok (.iconst (-1), 1) := by decide +kernel
theorem dX4_moveRange_9 : decode cX4_moveRange 9 = .ok (.ireturn, 1) := by decide +kernel
theorem dX4_moveRange_10 : decode cX4_moveRange 10 = .ok (.iload_n 2, 1) := by decide +kernel
theorem dX4_moveRange_11 : decode cX4_moveRange 11 = .ok (.invokestatic 141, 3) := by decide +kernel
theorem dX4_moveRange_14 : decode cX4_moveRange 14 = .ok (.ifCond .eq 15, 3) := by decide +kernel
theorem dX4_moveRange_17 : decode cX4_moveRange 17 = .ok (.iload_n 3, 1) := by decide +kernel
theorem dX4_moveRange_18 : decode cX4_moveRange 18 = .ok (.invokestatic 141, 3) := by decide +kernel
theorem dX4_moveRange_21 : decode cX4_moveRange 21 = .ok (.ifCond .eq 8, 3) := by decide +kernel
theorem dX4_moveRange_24 : decode cX4_moveRange 24 = .ok (.iload_n 3, 1) := by decide +kernel
theorem dX4_moveRange_25 : decode cX4_moveRange 25 = .ok (.iload_n 2, 1) := by decide +kernel
theorem dX4_moveRange_26 : decode cX4_moveRange 26 = .ok (.if_icmp .ge 6, 3) := by decide +kernel
theorem dX4_moveRange_29 : decode cX4_moveRange 29 = .ok (.bipush (-2), 2) := by decide +kernel
theorem dX4_moveRange_31 : decode cX4_moveRange 31 = .ok (.ireturn, 1) := by decide +kernel
theorem dX4_moveRange_32 : decode cX4_moveRange 32 = .ok (.aload_n 0, 1) := by decide +kernel
theorem dX4_moveRange_33 : decode cX4_moveRange 33 = .ok (.getfield 36, 3) := by decide +kernel
theorem dX4_moveRange_36 : decode cX4_moveRange 36 = .ok (.aload_n 0, 1) := by decide +kernel
theorem dX4_moveRange_37 : decode cX4_moveRange 37 = .ok (.getfield 10, 3) := by decide +kernel
theorem dX4_moveRange_40 : decode cX4_moveRange 40 = .ok (.getfield 60, 3) := by decide +kernel
theorem dX4_moveRange_43 : decode cX4_moveRange 43 = .ok (.iload_n 1, 1) := by decide +kernel
theorem dX4_moveRange_44 : decode cX4_moveRange 44 = .ok (.aaload, 1) := by decide +kernel
theorem dX4_moveRange_45 : decode cX4_moveRange 45 = .ok (.invokevirtual 91, 3) := by decide +kernel
theorem dX4_moveRange_48 : decode cX4_moveRange 48 = .ok (.aload_n 0, 1) := by decide +kernel
theorem dX4_moveRange_49 : decode cX4_moveRange 49 = .ok (.iload_n 1, 1) := by decide +kernel
theorem dX4_moveRange_50 : decode cX4_moveRange 50 = .ok (.aload_n 0, 1) := by decide +kernel
theorem dX4_moveRange_51 : decode cX4_moveRange 51 = .ok (.getfield 36, 3) := by decide +kernel
theorem dX4_moveRange_54 : decode cX4_moveRange 54 = .ok (.iload_n 2, 1) := by decide +kernel
theorem dX4_moveRange_55 : decode cX4_moveRange 55 = .ok (.iload_n 3, 1) := by decide +kernel
theorem dX4_moveRange_56 : decode cX4_moveRange 56 = .ok (.iload 4, 2) := by decide +kernel
theorem dX4_moveRange_58 : decode cX4_moveRange 58 = .ok (.invokevirtual 125, 3) := by decide +kernel
theorem dX4_moveRange_61 : decode cX4_moveRange 61 = .ok (.invokevirtual 129, 3) := by decide +kernel
theorem dX4_moveRange_64 : decode cX4_moveRange 64 = .ok (.ireturn, 1) := by decide +kernel
set_option maxRecDepth 20000 in
theorem ggX4_settleTrial_X2_push : GoodIn wsX4_settleTrial wsX2_push := goodIn_r _ [9, 10, 11, 12, 13, 14, 8, 15, 16, 17, 18, 19, 20, 21, 22, 23, 24, 25, 26, 27, 28, 29, 30, 31, 32, 33, 34, 35, 36, 37, 38, 48, 49, 46, 47, 50, 51, 52, 53, 54, 55, 56] (by decide +kernel) (by decide +kernel)
set_option maxRecDepth 20000 in
theorem gX4_settleTrial_X2_push : GoodIn wsX4_settleTrial (wsV RX4 48 RX2 yX2_push wsX2_push) := goodIn_app (goodIn_of _ (by decide +kernel)) ggX4_settleTrial_X2_push
set_option maxRecDepth 20000 in
theorem ggX4_settleTrial_X0_copyFrom : GoodIn wsX4_settleTrial wsX0_copyFrom := goodIn_r _ [27, 28, 29, 30, 31, 32, 33, 34, 35, 36, 37, 38, 50, 51, 52, 53, 54, 55, 56] (by decide +kernel) (by decide +kernel)
set_option maxRecDepth 20000 in
theorem gX4_settleTrial_X0_copyFrom : GoodIn wsX4_settleTrial (wsV RX4 91 RX0 yX0_copyFrom wsX0_copyFrom) := goodIn_app (goodIn_of _ (by decide +kernel)) ggX4_settleTrial_X0_copyFrom
theorem dX4_settleTrial_0 : decode cX4_settleTrial 0 = .ok (.iload_n 2, 1) := by decide +kernel
theorem dX4_settleTrial_1 : decode cX4_settleTrial 1 = .ok (.ifCond .ge 5, 3) := by decide +kernel
theorem dX4_settleTrial_4 : decode cX4_settleTrial 4 = .ok (.iload_n 2, 1) := by decide +kernel
theorem dX4_settleTrial_5 : decode cX4_settleTrial 5 = .ok (.ireturn, 1) := by decide +kernel
theorem dX4_settleTrial_6 : decode cX4_settleTrial 6 = .ok (.iload_n 2, 1) := by decide +kernel
theorem dX4_settleTrial_7 : decode cX4_settleTrial 7 = .ok (.ifCond .ne 6, 3) := by decide +kernel
theorem dX4_settleTrial_10 : decode cX4_settleTrial 10 = .ok (.bipush (-5), 2) := by decide +kernel
theorem dX4_settleTrial_12 : decode cX4_settleTrial 12 = .ok (.ireturn, 1) := by decide +kernel
theorem dX4_settleTrial_13 : decode cX4_settleTrial 13 = .ok (.aload_n 0, 1) := by decide +kernel
theorem dX4_settleTrial_14 : decode cX4_settleTrial 14 = .ok (.getfield 22, 3) := by decide +kernel
theorem dX4_settleTrial_17 : decode cX4_settleTrial 17 = .ok (.aload_n 0, 1) := by decide +kernel
theorem dX4_settleTrial_18 : decode cX4_settleTrial 18 = .ok (.getfield 10, 3) := by decide +kernel
theorem dX4_settleTrial_21 : decode cX4_settleTrial 21 = .ok (.invokevirtual 48, 3) := by decide +kernel
theorem dX4_settleTrial_24 : decode cX4_settleTrial 24 = .ok (.aload_n 0, 1) := by decide +kernel
theorem dX4_settleTrial_25 : decode cX4_settleTrial 25 = .ok (.getfield 10, 3) := by decide +kernel
theorem dX4_settleTrial_28 : decode cX4_settleTrial 28 = .ok (.getfield 60, 3) := by decide +kernel
theorem dX4_settleTrial_31 : decode cX4_settleTrial 31 = .ok (.iload_n 1, 1) := by decide +kernel
theorem dX4_settleTrial_32 : decode cX4_settleTrial 32 = .ok (.aaload, 1) := by decide +kernel
theorem dX4_settleTrial_33 : decode cX4_settleTrial 33 = .ok (.aload_n 0, 1) := by decide +kernel
theorem dX4_settleTrial_34 : decode cX4_settleTrial 34 = .ok (.getfield 36, 3) := by decide +kernel
theorem dX4_settleTrial_37 : decode cX4_settleTrial 37 = .ok (.invokevirtual 91, 3) := by decide +kernel
theorem dX4_settleTrial_40 : decode cX4_settleTrial 40 = .ok (.iload_n 2, 1) := by decide +kernel
theorem dX4_settleTrial_41 : decode cX4_settleTrial 41 = .ok (.ireturn, 1) := by decide +kernel
end
section
theorem dX5_init_0 : decode cX5_init 0 = .ok (.aload_n 0, 1) := by decide +kernel
theorem dX5_init_1 : decode cX5_init 1 = .ok (.invokespecial 1, 3) := by decide +kernel
theorem dX5_init_4 : decode cX5_init 4 = .ok (.aload_n 0, 1) := by decide +kernel
theorem dX5_init_5 : decode cX5_init 5 = .ok (.sipush 451, 3) := by decide +kernel
theorem dX5_init_8 : decode cX5_init 8 = .ok (.newarray .int, 2) := by decide +kernel
theorem dX5_init_10 : decode cX5_init 10 = .ok (.putfield 7, 3) := by decide +kernel
theorem dX5_init_13 : decode cX5_init 13 = .ok (.aload_n 0, 1) := by decide +kernel
theorem dX5_init_14 : decode cX5_init 14 = .ok (.sipush 1804, 3) := by decide +kernel
theorem dX5_init_17 : decode cX5_init 17 = .ok (.newarray .int, 2) := by decide +kernel
theorem dX5_init_19 : decode cX5_init 19 = .ok (.putfield 13, 3) := by decide +kernel
theorem dX5_init_22 : decode cX5_init 22 = .ok (.aload_n 0, 1) := by decide +kernel
theorem dX5_init_23 : decode cX5_init 23 = .ok (.sipush 451, 3) := by decide +kernel
theorem dX5_init_26 : decode cX5_init 26 = .ok (.newarray .int, 2) := by decide +kernel
theorem dX5_init_28 : decode cX5_init 28 = .ok (.putfield 16, 3) := by decide +kernel
theorem dX5_init_31 : decode cX5_init 31 = .ok (.aload_n 0, 1) := by decide +kernel
theorem dX5_init_32 : decode cX5_init 32 = .ok (.sipush 451, 3) := by decide +kernel
theorem dX5_init_35 : decode cX5_init 35 = .ok (.newarray .int, 2) := by decide +kernel
theorem dX5_init_37 : decode cX5_init 37 = .ok (.putfield 19, 3) := by decide +kernel
theorem dX5_init_40 : decode cX5_init 40 = .ok (.aload_n 0, 1) := by decide +kernel
theorem dX5_init_41 : decode cX5_init 41 = .ok (.bipush 60, 2) := by decide +kernel
theorem dX5_init_43 : decode cX5_init 43 = .ok (.newarray .int, 2) := by decide +kernel
theorem dX5_init_45 : decode cX5_init 45 = .ok (.putfield 22, 3) := by decide +kernel
theorem dX5_init_48 : decode cX5_init 48 = .ok (.aload_n 0, 1) := by decide +kernel
theorem dX5_init_49 : decode cX5_init 49 = .ok (.bipush 64, 2) := by decide +kernel
theorem dX5_init_51 : decode cX5_init 51 = .ok (.newarray .int, 2) := by decide +kernel
theorem dX5_init_53 : decode cX5_init 53 = .ok (.putfield 25, 3) := by decide +kernel
theorem dX5_init_56 : decode cX5_init 56 = .ok (.aload_n 0, 1) := by decide +kernel
theorem dX5_init_57 : decode cX5_init 57 = .ok (.bipush 60, 2) := by decide +kernel
theorem dX5_init_59 : decode cX5_init 59 = .ok (.newarray .int, 2) := by decide +kernel
theorem dX5_init_61 : decode cX5_init 61 = .ok (.putfield 28, 3) := by decide +kernel
theorem dX5_init_64 : decode cX5_init 64 = .ok (.return_, 1) := by decide +kernel
theorem dX5_in_0 : decode cX5_in 0 = .ok (.iload_n 0, 1) := by decide +kernel
theorem dX5_in_1 : decode cX5_in 1 = .ok (.iload_n 1, 1) := by decide +kernel
theorem dX5_in_2 : decode cX5_in 2 = .ok (.if_icmp .lt 12, 3) := by decide +kernel
theorem dX5_in_5 : decode cX5_in 5 = .ok (.iload_n 0, 1) := by decide +kernel
theorem dX5_in_6 : decode cX5_in 6 = .ok (.iload_n 2, 1) := by decide +kernel
theorem dX5_in_7 : decode cX5_in 7 = .ok (.if_icmp .gt 7, 3) := by decide +kernel
theorem dX5_in_10 : decode cX5_in 10 = .ok (.iconst 1, 1) := by decide +kernel
theorem dX5_in_11 : decode cX5_in 11 = .ok (.goto 4, 3) := by decide +kernel
theorem dX5_in_14 : decode cX5_in 14 = .ok (.iconst 0, 1) := by decide +kernel
theorem dX5_in_15 : decode cX5_in 15 = .ok (.ireturn, 1) := by decide +kernel
theorem dX5_copies_0 : decode cX5_copies 0 = .ok (.iconst 0, 1) := by decide +kernel
theorem dX5_copies_1 : decode cX5_copies 1 = .ok (.istore 4, 2) := by decide +kernel
theorem dX5_copies_3 : decode cX5_copies 3 = .ok (.iload 4, 2) := by decide +kernel
theorem dX5_copies_5 : decode cX5_copies 5 = .ok (.sipush 451, 3) := by decide +kernel
theorem dX5_copies_8 : decode cX5_copies 8 = .ok (.if_icmp .ge 21, 3) := by decide +kernel
theorem dX5_copies_11 : decode cX5_copies 11 = .ok (.aload_n 2, 1) := by decide +kernel
theorem dX5_copies_12 : decode cX5_copies 12 = .ok (.iload_n 3, 1) := by decide +kernel
theorem dX5_copies_13 : decode cX5_copies 13 = .ok (.iload 4, 2) := by decide +kernel
theorem dX5_copies_15 : decode cX5_copies 15 = .ok (.iadd, 1) := by decide +kernel
theorem dX5_copies_16 : decode cX5_copies 16 = .ok (.aload_n 0, 1) := by decide +kernel
theorem dX5_copies_17 : decode cX5_copies 17 = .ok (.iload_n 1, 1) := by decide +kernel
theorem dX5_copies_18 : decode cX5_copies 18 = .ok (.iload 4, 2) := by decide +kernel
theorem dX5_copies_20 : decode cX5_copies 20 = .ok (.iadd, 1) := by decide +kernel
theorem dX5_copies_21 : decode cX5_copies 21 = .ok (.iaload, 1) := by decide +kernel
theorem dX5_copies_22 : decode cX5_copies 22 = .ok (.iastore, 1) := by decide +kernel
theorem dX5_copies_23 : decode cX5_copies 23 = .ok (.iinc 4 1, 3) := by decide +kernel
theorem dX5_copies_26 : decode cX5_copies 26 = .ok (.goto (-23), 3) := by decide +kernel
theorem dX5_copies_29 : decode cX5_copies 29 = .ok (.return_, 1) := by decide +kernel
set_option maxRecDepth 20000 in
theorem ggX5_records_X5_copies : GoodIn wsX5_records wsX5_copies := goodIn_r _ [6] (by decide +kernel) (by decide +kernel)
set_option maxRecDepth 20000 in
theorem gX5_records_X5_copies : GoodIn wsX5_records (va_wsS RX5 35 yX5_copies wsX5_copies) := goodIn_app (goodIn_of _ (by decide +kernel)) ggX5_records_X5_copies
theorem dX5_records_0 : decode cX5_records 0 = .ok (.aload_n 0, 1) := by decide +kernel
theorem dX5_records_1 : decode cX5_records 1 = .ok (.getfield 31, 3) := by decide +kernel
theorem dX5_records_4 : decode cX5_records 4 = .ok (.iconst 4, 1) := by decide +kernel
theorem dX5_records_5 : decode cX5_records 5 = .ok (.if_icmp .ne 39, 3) := by decide +kernel
theorem dX5_records_8 : decode cX5_records 8 = .ok (.iconst 0, 1) := by decide +kernel
theorem dX5_records_9 : decode cX5_records 9 = .ok (.istore_n 2, 1) := by decide +kernel
theorem dX5_records_10 : decode cX5_records 10 = .ok (.iload_n 2, 1) := by decide +kernel
theorem dX5_records_11 : decode cX5_records 11 = .ok (.sipush 1353, 3) := by decide +kernel
theorem dX5_records_14 : decode cX5_records 14 = .ok (.if_icmp .ge 25, 3) := by decide +kernel
theorem dX5_records_17 : decode cX5_records 17 = .ok (.aload_n 0, 1) := by decide +kernel
theorem dX5_records_18 : decode cX5_records 18 = .ok (.getfield 13, 3) := by decide +kernel
theorem dX5_records_21 : decode cX5_records 21 = .ok (.iload_n 2, 1) := by decide +kernel
theorem dX5_records_22 : decode cX5_records 22 = .ok (.aload_n 0, 1) := by decide +kernel
theorem dX5_records_23 : decode cX5_records 23 = .ok (.getfield 13, 3) := by decide +kernel
theorem dX5_records_26 : decode cX5_records 26 = .ok (.iload_n 2, 1) := by decide +kernel
theorem dX5_records_27 : decode cX5_records 27 = .ok (.sipush 451, 3) := by decide +kernel
theorem dX5_records_30 : decode cX5_records 30 = .ok (.iadd, 1) := by decide +kernel
theorem dX5_records_31 : decode cX5_records 31 = .ok (.iaload, 1) := by decide +kernel
theorem dX5_records_32 : decode cX5_records 32 = .ok (.iastore, 1) := by decide +kernel
theorem dX5_records_33 : decode cX5_records 33 = .ok (.iinc 2 1, 3) := by decide +kernel
theorem dX5_records_36 : decode cX5_records 36 = .ok (.goto (-26), 3) := by decide +kernel
theorem dX5_records_39 : decode cX5_records 39 = .ok (.aload_n 0, 1) := by decide +kernel
theorem dX5_records_40 : decode cX5_records 40 = .ok (.iconst 3, 1) := by decide +kernel
theorem dX5_records_41 : decode cX5_records 41 = .ok (.putfield 31, 3) := by decide +kernel
theorem dX5_records_44 : decode cX5_records 44 = .ok (.aload_n 1, 1) := by decide +kernel
theorem dX5_records_45 : decode cX5_records 45 = .ok (.iconst 0, 1) := by decide +kernel
theorem dX5_records_46 : decode cX5_records 46 = .ok (.aload_n 0, 1) := by decide +kernel
theorem dX5_records_47 : decode cX5_records 47 = .ok (.getfield 13, 3) := by decide +kernel
theorem dX5_records_50 : decode cX5_records 50 = .ok (.aload_n 0, 1) := by decide +kernel
theorem dX5_records_51 : decode cX5_records 51 = .ok (.getfield 31, 3) := by decide +kernel
theorem dX5_records_54 : decode cX5_records 54 = .ok (.sipush 451, 3) := by decide +kernel
theorem dX5_records_57 : decode cX5_records 57 = .ok (.imul, 1) := by decide +kernel
theorem dX5_records_58 : decode cX5_records 58 = .ok (.invokestatic 35, 3) := by decide +kernel
theorem dX5_records_61 : decode cX5_records 61 = .ok (.aload_n 0, 1) := by decide +kernel
theorem dX5_records_62 : decode cX5_records 62 = .ok (.dup, 1) := by decide +kernel
theorem dX5_records_63 : decode cX5_records 63 = .ok (.getfield 31, 3) := by decide +kernel
theorem dX5_records_66 : decode cX5_records 66 = .ok (.iconst 1, 1) := by decide +kernel
theorem dX5_records_67 : decode cX5_records 67 = .ok (.iadd, 1) := by decide +kernel
theorem dX5_records_68 : decode cX5_records 68 = .ok (.putfield 31, 3) := by decide +kernel
theorem dX5_records_71 : decode cX5_records 71 = .ok (.return_, 1) := by decide +kernel
set_option maxRecDepth 20000 in
theorem ggX5_isSet_X5_in : GoodIn wsX5_isSet wsX5_in := goodIn_r _ [5] (by decide +kernel) (by decide +kernel)
set_option maxRecDepth 20000 in
theorem gX5_isSet_X5_in : GoodIn wsX5_isSet (va_wsS RX5 39 yX5_in wsX5_in) := goodIn_app (goodIn_of _ (by decide +kernel)) ggX5_isSet_X5_in
theorem dX5_isSet_0 : decode cX5_isSet 0 = .ok (.iload_n 1, 1) := by decide +kernel
theorem dX5_isSet_1 : decode cX5_isSet 1 = .ok (.iconst 0, 1) := by decide +kernel
theorem dX5_isSet_2 : decode cX5_isSet 2 = .ok (.aload_n 0, 1) := by decide +kernel
theorem dX5_isSet_3 : decode cX5_isSet 3 = .ok (.getfield 7, 3) := by decide +kernel
theorem dX5_isSet_6 : decode cX5_isSet 6 = .ok (.iconst 0, 1) := by decide +kernel
theorem dX5_isSet_7 : decode cX5_isSet 7 = .ok (.iaload, 1) := by decide +kernel
theorem dX5_isSet_8 : decode cX5_isSet 8 = .ok (.iconst 1, 1) := by decide +kernel
theorem dX5_isSet_9 : decode cX5_isSet 9 = .ok (.isub, 1) := by decide +kernel
theorem dX5_isSet_10 : decode cX5_isSet 10 = .ok (.invokestatic 39, 3) := by decide +kernel
theorem dX5_isSet_13 : decode cX5_isSet 13 = .ok (.ireturn, 1) := by decide +kernel
set_option maxRecDepth 20000 in
theorem ggX5_isNumber_X5_in : GoodIn wsX5_isNumber wsX5_in := goodIn_r _ [4] (by decide +kernel) (by decide +kernel)
set_option maxRecDepth 20000 in
theorem gX5_isNumber_X5_in : GoodIn wsX5_isNumber (va_wsS RX5 39 yX5_in wsX5_in) := goodIn_app (goodIn_of _ (by decide +kernel)) ggX5_isNumber_X5_in
theorem dX5_isNumber_0 : decode cX5_isNumber 0 = .ok (.iload_n 0, 1) := by decide +kernel
theorem dX5_isNumber_1 : decode cX5_isNumber 1 = .ok (.iconst 0, 1) := by decide +kernel
theorem dX5_isNumber_2 : decode cX5_isNumber 2 = .ok (.sipush 2047, 3) := by decide +kernel
theorem dX5_isNumber_5 : decode cX5_isNumber 5 = .ok (.invokestatic 39, 3) := by decide +kernel
theorem dX5_isNumber_8 : decode cX5_isNumber 8 = .ok (.ireturn, 1) := by decide +kernel
theorem dX5_of_0 : decode cX5_of 0 = .ok (.aload_n 0, 1) := by decide +kernel
theorem dX5_of_1 : decode cX5_of 1 = .ok (.getfield 7, 3) := by decide +kernel
theorem dX5_of_4 : decode cX5_of 4 = .ok (.iconst 1, 1) := by decide +kernel
theorem dX5_of_5 : decode cX5_of 5 = .ok (.bipush 75, 2) := by decide +kernel
theorem dX5_of_7 : decode cX5_of 7 = .ok (.iload_n 1, 1) := by decide +kernel
theorem dX5_of_8 : decode cX5_of 8 = .ok (.imul, 1) := by decide +kernel
theorem dX5_of_9 : decode cX5_of 9 = .ok (.iadd, 1) := by decide +kernel
theorem dX5_of_10 : decode cX5_of 10 = .ok (.iload_n 2, 1) := by decide +kernel
theorem dX5_of_11 : decode cX5_of 11 = .ok (.iadd, 1) := by decide +kernel
theorem dX5_of_12 : decode cX5_of 12 = .ok (.iaload, 1) := by decide +kernel
theorem dX5_of_13 : decode cX5_of 13 = .ok (.ireturn, 1) := by decide +kernel
theorem dX5_lays_0 : decode cX5_lays 0 = .ok (.aload_n 0, 1) := by decide +kernel
theorem dX5_lays_1 : decode cX5_lays 1 = .ok (.getfield 7, 3) := by decide +kernel
theorem dX5_lays_4 : decode cX5_lays 4 = .ok (.iconst 1, 1) := by decide +kernel
theorem dX5_lays_5 : decode cX5_lays 5 = .ok (.bipush 75, 2) := by decide +kernel
theorem dX5_lays_7 : decode cX5_lays 7 = .ok (.iload_n 1, 1) := by decide +kernel
theorem dX5_lays_8 : decode cX5_lays 8 = .ok (.imul, 1) := by decide +kernel
theorem dX5_lays_9 : decode cX5_lays 9 = .ok (.iadd, 1) := by decide +kernel
theorem dX5_lays_10 : decode cX5_lays 10 = .ok (.iload_n 2, 1) := by decide +kernel
theorem dX5_lays_11 : decode cX5_lays 11 = .ok (.iadd, 1) := by decide +kernel
theorem dX5_lays_12 : decode cX5_lays 12 = .ok (.iload_n 3, 1) := by decide +kernel
theorem dX5_lays_13 : decode cX5_lays 13 = .ok (.iastore, 1) := by decide +kernel
theorem dX5_lays_14 : decode cX5_lays 14 = .ok (.return_, 1) := by decide +kernel
set_option maxRecDepth 20000 in
theorem ggX5_isIn_X5_of : GoodIn wsX5_isIn wsX5_of := goodIn_r _ [5, 6, 7, 8, 9, 10, 11, 12, 13, 14, 15, 16, 17, 18, 19] (by decide +kernel) (by decide +kernel)
set_option maxRecDepth 20000 in
theorem gX5_isIn_X5_of : GoodIn wsX5_isIn (wsV RX5 43 RX5 yX5_of wsX5_of) := goodIn_app (goodIn_of _ (by decide +kernel)) ggX5_isIn_X5_of
theorem dX5_isIn_0 : decode cX5_isIn 0 = .ok (.aload_n 0, 1) := by decide +kernel
theorem dX5_isIn_1 : decode cX5_isIn 1 = .ok (.iload_n 1, 1) := by decide +kernel
theorem dX5_isIn_2 : decode cX5_isIn 2 = .ok (.bipush 11, 2) := by decide +kernel
theorem dX5_isIn_4 : decode cX5_isIn 4 = .ok (.iload_n 2, 1) := by decide +kernel
theorem dX5_isIn_5 : decode cX5_isIn 5 = .ok (.bipush 32, 2) := by decide +kernel
theorem dX5_isIn_7 : decode cX5_isIn 7 = .ok (.idiv, 1) := by decide +kernel
theorem dX5_isIn_8 : decode cX5_isIn 8 = .ok (.iadd, 1) := by decide +kernel
theorem dX5_isIn_9 : decode cX5_isIn 9 = .ok (.invokevirtual 43, 3) := by decide +kernel
theorem dX5_isIn_12 : decode cX5_isIn 12 = .ok (.iload_n 2, 1) := by decide +kernel
theorem dX5_isIn_13 : decode cX5_isIn 13 = .ok (.bipush 32, 2) := by decide +kernel
theorem dX5_isIn_15 : decode cX5_isIn 15 = .ok (.irem, 1) := by decide +kernel
theorem dX5_isIn_16 : decode cX5_isIn 16 = .ok (.ishr, 1) := by decide +kernel
theorem dX5_isIn_17 : decode cX5_isIn 17 = .ok (.iconst 1, 1) := by decide +kernel
theorem dX5_isIn_18 : decode cX5_isIn 18 = .ok (.iand, 1) := by decide +kernel
theorem dX5_isIn_19 : decode cX5_isIn 19 = .ok (.iconst 1, 1) := by decide +kernel
theorem dX5_isIn_20 : decode cX5_isIn 20 = .ok (.if_icmp .ne 7, 3) := by decide +kernel
theorem dX5_isIn_23 : decode cX5_isIn 23 = .ok (.iconst 1, 1) := by decide +kernel
theorem dX5_isIn_24 : decode cX5_isIn 24 = .ok (.goto 4, 3) := by decide +kernel
theorem dX5_isIn_27 : decode cX5_isIn 27 = .ok (.iconst 0, 1) := by decide +kernel
theorem dX5_isIn_28 : decode cX5_isIn 28 = .ok (.ireturn, 1) := by decide +kernel
set_option maxRecDepth 20000 in
theorem ggX5_puts_X5_of : GoodIn wsX5_puts wsX5_of := goodIn_r _ [5, 6, 11, 12, 13, 14, 15, 16, 17, 18, 19, 20, 21, 22, 23] (by decide +kernel) (by decide +kernel)
set_option maxRecDepth 20000 in
theorem gX5_puts_X5_of : GoodIn wsX5_puts (wsV RX5 43 RX5 yX5_of wsX5_of) := goodIn_app (goodIn_of _ (by decide +kernel)) ggX5_puts_X5_of
set_option maxRecDepth 20000 in
theorem ggX5_puts_X5_lays : GoodIn wsX5_puts wsX5_lays := goodIn_r _ [10, 6, 11, 12, 13, 14, 15, 16, 17, 18, 19, 20, 21, 22, 23] (by decide +kernel) (by decide +kernel)
set_option maxRecDepth 20000 in
theorem gX5_puts_X5_lays : GoodIn wsX5_puts (wsV RX5 47 RX5 yX5_lays wsX5_lays) := goodIn_app (goodIn_of _ (by decide +kernel)) ggX5_puts_X5_lays
theorem dX5_puts_0 : decode cX5_puts 0 = .ok (.iconst 1, 1) := by decide +kernel
theorem dX5_puts_1 : decode cX5_puts 1 = .ok (.iload_n 2, 1) := by decide +kernel
theorem dX5_puts_2 : decode cX5_puts 2 = .ok (.bipush 32, 2) := by decide +kernel
theorem dX5_puts_4 : decode cX5_puts 4 = .ok (.irem, 1) := by decide +kernel
theorem dX5_puts_5 : decode cX5_puts 5 = .ok (.ishl, 1) := by decide +kernel
theorem dX5_puts_6 : decode cX5_puts 6 = .ok (.istore 4, 2) := by decide +kernel
theorem dX5_puts_8 : decode cX5_puts 8 = .ok (.aload_n 0, 1) := by decide +kernel
theorem dX5_puts_9 : decode cX5_puts 9 = .ok (.iload_n 1, 1) := by decide +kernel
theorem dX5_puts_10 : decode cX5_puts 10 = .ok (.bipush 11, 2) := by decide +kernel
theorem dX5_puts_12 : decode cX5_puts 12 = .ok (.iload_n 2, 1) := by decide +kernel
theorem dX5_puts_13 : decode cX5_puts 13 = .ok (.bipush 32, 2) := by decide +kernel
theorem dX5_puts_15 : decode cX5_puts 15 = .ok (.idiv, 1) := by decide +kernel
theorem dX5_puts_16 : decode cX5_puts 16 = .ok (.iadd, 1) := by decide +kernel
theorem dX5_puts_17 : decode cX5_puts 17 = .ok (.invokevirtual 43, 3) := by decide +kernel
theorem dX5_puts_20 : decode cX5_puts 20 = .ok (.istore 5, 2) := by decide +kernel
theorem dX5_puts_22 : decode cX5_puts 22 = .ok (.aload_n 0, 1) := by decide +kernel
theorem dX5_puts_23 : decode cX5_puts 23 = .ok (.iload_n 1, 1) := by decide +kernel
theorem dX5_puts_24 : decode cX5_puts 24 = .ok (.bipush 11, 2) := by decide +kernel
theorem dX5_puts_26 : decode cX5_puts 26 = .ok (.iload_n 2, 1) := by decide +kernel
theorem dX5_puts_27 : decode cX5_puts 27 = .ok (.bipush 32, 2) := by decide +kernel
theorem dX5_puts_29 : decode cX5_puts 29 = .ok (.idiv, 1) := by decide +kernel
theorem dX5_puts_30 : decode cX5_puts 30 = .ok (.iadd, 1) := by decide +kernel
theorem dX5_puts_31 : decode cX5_puts 31 = .ok (.iload_n 3, 1) := by decide +kernel
theorem dX5_puts_32 : decode cX5_puts 32 = .ok (.ifCond .eq 11, 3) := by decide +kernel
theorem dX5_puts_35 : decode cX5_puts 35 = .ok (.iload 5, 2) := by decide +kernel
theorem dX5_puts_37 : decode cX5_puts 37 = .ok (.iload 4, 2) := by decide +kernel
theorem dX5_puts_39 : decode cX5_puts 39 = .ok (.ior, 1) := by decide +kernel
theorem dX5_puts_40 : decode cX5_puts 40 = .ok (.goto 10, 3) := by decide +kernel
theorem dX5_puts_43 : decode cX5_puts 43 = .ok (.iload 5, 2) := by decide +kernel
theorem dX5_puts_45 : decode cX5_puts 45 = .ok (.iload 4, 2) := by decide +kernel
theorem dX5_puts_47 : decode cX5_puts 47 = .ok (.iconst (-1), 1) := by decide +kernel
theorem dX5_puts_48 : decode cX5_puts 48 = .ok (.ixor, 1) := by decide +kernel
theorem dX5_puts_49 : decode cX5_puts 49 = .ok (.iand, 1) := by decide +kernel
theorem dX5_puts_50 : decode cX5_puts 50 = .ok (.invokevirtual 47, 3) := by decide +kernel
theorem dX5_puts_53 : decode cX5_puts 53 = .ok (.return_, 1) := by decide +kernel
set_option maxRecDepth 20000 in
theorem ggX5_kindOf_X5_of : GoodIn wsX5_kindOf wsX5_of := goodIn_r _ [5, 6, 7, 8, 9, 10, 11, 12, 13, 14, 15, 16, 17, 18, 19] (by decide +kernel) (by decide +kernel)
set_option maxRecDepth 20000 in
theorem gX5_kindOf_X5_of : GoodIn wsX5_kindOf (wsV RX5 43 RX5 yX5_of wsX5_of) := goodIn_app (goodIn_of _ (by decide +kernel)) ggX5_kindOf_X5_of
theorem dX5_kindOf_0 : decode cX5_kindOf 0 = .ok (.aload_n 0, 1) := by decide +kernel
theorem dX5_kindOf_1 : decode cX5_kindOf 1 = .ok (.iload_n 1, 1) := by decide +kernel
theorem dX5_kindOf_2 : decode cX5_kindOf 2 = .ok (.iconst 3, 1) := by decide +kernel
theorem dX5_kindOf_3 : decode cX5_kindOf 3 = .ok (.iload_n 2, 1) := by decide +kernel
theorem dX5_kindOf_4 : decode cX5_kindOf 4 = .ok (.iadd, 1) := by decide +kernel
theorem dX5_kindOf_5 : decode cX5_kindOf 5 = .ok (.invokevirtual 43, 3) := by decide +kernel
theorem dX5_kindOf_8 : decode cX5_kindOf 8 = .ok (.iconst 1, 1) := by decide +kernel
theorem dX5_kindOf_9 : decode cX5_kindOf 9 = .ok (.isub, 1) := by decide +kernel
theorem dX5_kindOf_10 : decode cX5_kindOf 10 = .ok (.ireturn, 1) := by decide +kernel
set_option maxRecDepth 20000 in
theorem ggX5_manyIn_X5_isIn : GoodIn wsX5_manyIn wsX5_isIn := goodIn_r _ [5, 6, 7, 8, 4, 9, 10, 11, 12, 13, 14, 15, 16, 17, 18, 19, 20, 21, 22, 23] (by decide +kernel) (by decide +kernel)
set_option maxRecDepth 20000 in
theorem gX5_manyIn_X5_isIn : GoodIn wsX5_manyIn (wsV RX5 51 RX5 yX5_isIn wsX5_isIn) := goodIn_app (goodIn_of _ (by decide +kernel)) ggX5_manyIn_X5_isIn
theorem dX5_manyIn_0 : decode cX5_manyIn 0 = .ok (.iconst 0, 1) := by decide +kernel
theorem dX5_manyIn_1 : decode cX5_manyIn 1 = .ok (.istore_n 3, 1) := by decide +kernel
theorem dX5_manyIn_2 : decode cX5_manyIn 2 = .ok (.sipush 256, 3) := by decide +kernel
theorem dX5_manyIn_5 : decode cX5_manyIn 5 = .ok (.iload_n 2, 1) := by decide +kernel
theorem dX5_manyIn_6 : decode cX5_manyIn 6 = .ok (.imul, 1) := by decide +kernel
theorem dX5_manyIn_7 : decode cX5_manyIn 7 = .ok (.istore 4, 2) := by decide +kernel
theorem dX5_manyIn_9 : decode cX5_manyIn 9 = .ok (.iload 4, 2) := by decide +kernel
theorem dX5_manyIn_11 : decode cX5_manyIn 11 = .ok (.sipush 256, 3) := by decide +kernel
theorem dX5_manyIn_14 : decode cX5_manyIn 14 = .ok (.iload_n 2, 1) := by decide +kernel
theorem dX5_manyIn_15 : decode cX5_manyIn 15 = .ok (.imul, 1) := by decide +kernel
theorem dX5_manyIn_16 : decode cX5_manyIn 16 = .ok (.sipush 256, 3) := by decide +kernel
theorem dX5_manyIn_19 : decode cX5_manyIn 19 = .ok (.iadd, 1) := by decide +kernel
theorem dX5_manyIn_20 : decode cX5_manyIn 20 = .ok (.if_icmp .ge 27, 3) := by decide +kernel
theorem dX5_manyIn_23 : decode cX5_manyIn 23 = .ok (.iload_n 3, 1) := by decide +kernel
theorem dX5_manyIn_24 : decode cX5_manyIn 24 = .ok (.aload_n 0, 1) := by decide +kernel
theorem dX5_manyIn_25 : decode cX5_manyIn 25 = .ok (.iload_n 1, 1) := by decide +kernel
theorem dX5_manyIn_26 : decode cX5_manyIn 26 = .ok (.iload 4, 2) := by decide +kernel
theorem dX5_manyIn_28 : decode cX5_manyIn 28 = .ok (.invokevirtual 51, 3) := by decide +kernel
theorem dX5_manyIn_31 : decode cX5_manyIn 31 = .ok (.ifCond .eq 7, 3) := by decide +kernel
theorem dX5_manyIn_34 : decode cX5_manyIn 34 = .ok (.iconst 1, 1) := by decide +kernel
theorem dX5_manyIn_35 : decode cX5_manyIn 35 = .ok (.goto 4, 3) := by decide +kernel
theorem dX5_manyIn_38 : decode cX5_manyIn 38 = .ok (.iconst 0, 1) := by decide +kernel
theorem dX5_manyIn_39 : decode cX5_manyIn 39 = .ok (.iadd, 1) := by decide +kernel
theorem dX5_manyIn_40 : decode cX5_manyIn 40 = .ok (.istore_n 3, 1) := by decide +kernel
theorem dX5_manyIn_41 : decode cX5_manyIn 41 = .ok (.iinc 4 1, 3) := by decide +kernel
theorem dX5_manyIn_44 : decode cX5_manyIn 44 = .ok (.goto (-35), 3) := by decide +kernel
theorem dX5_manyIn_47 : decode cX5_manyIn 47 = .ok (.iload_n 3, 1) := by decide +kernel
theorem dX5_manyIn_48 : decode cX5_manyIn 48 = .ok (.ireturn, 1) := by decide +kernel
set_option maxRecDepth 20000 in
theorem ggX5_runsIn_X5_isIn : GoodIn wsX5_runsIn wsX5_isIn := goodIn_r _ [5, 6, 7, 8, 4, 9, 10, 11, 12, 13, 14, 15, 16, 17, 18, 19, 20, 21, 22, 23] (by decide +kernel) (by decide +kernel)
set_option maxRecDepth 20000 in
theorem gX5_runsIn_X5_isIn : GoodIn wsX5_runsIn (wsV RX5 51 RX5 yX5_isIn wsX5_isIn) := goodIn_app (goodIn_of _ (by decide +kernel)) ggX5_runsIn_X5_isIn
theorem dX5_runsIn_0 : decode cX5_runsIn 0 = .ok (.iconst 0, 1) := by decide +kernel
theorem dX5_runsIn_1 : decode cX5_runsIn 1 = .ok (.istore_n 3, 1) := by decide +kernel
theorem dX5_runsIn_2 : decode cX5_runsIn 2 = .ok (.sipush 256, 3) := by decide +kernel
theorem dX5_runsIn_5 : decode cX5_runsIn 5 = .ok (.iload_n 2, 1) := by decide +kernel
theorem dX5_runsIn_6 : decode cX5_runsIn 6 = .ok (.imul, 1) := by decide +kernel
theorem dX5_runsIn_7 : decode cX5_runsIn 7 = .ok (.istore 4, 2) := by decide +kernel
theorem dX5_runsIn_9 : decode cX5_runsIn 9 = .ok (.iload 4, 2) := by decide +kernel
theorem dX5_runsIn_11 : decode cX5_runsIn 11 = .ok (.sipush 256, 3) := by decide +kernel
theorem dX5_runsIn_14 : decode cX5_runsIn 14 = .ok (.iload_n 2, 1) := by decide +kernel
theorem dX5_runsIn_15 : decode cX5_runsIn 15 = .ok (.imul, 1) := by decide +kernel
theorem dX5_runsIn_16 : decode cX5_runsIn 16 = .ok (.sipush 256, 3) := by decide +kernel
theorem dX5_runsIn_19 : decode cX5_runsIn 19 = .ok (.iadd, 1) := by decide +kernel
theorem dX5_runsIn_20 : decode cX5_runsIn 20 = .ok (.if_icmp .ge 48, 3) := by decide +kernel
theorem dX5_runsIn_23 : decode cX5_runsIn 23 = .ok (.iload_n 3, 1) := by decide +kernel
theorem dX5_runsIn_24 : decode cX5_runsIn 24 = .ok (.aload_n 0, 1) := by decide +kernel
theorem dX5_runsIn_25 : decode cX5_runsIn 25 = .ok (.iload_n 1, 1) := by decide +kernel
theorem dX5_runsIn_26 : decode cX5_runsIn 26 = .ok (.iload 4, 2) := by decide +kernel
theorem dX5_runsIn_28 : decode cX5_runsIn 28 = .ok (.invokevirtual 51, 3) := by decide +kernel
theorem dX5_runsIn_31 : decode cX5_runsIn 31 = .ok (.ifCond .eq 28, 3) := by decide +kernel
theorem dX5_runsIn_34 : decode cX5_runsIn 34 = .ok (.iload 4, 2) := by decide +kernel
theorem dX5_runsIn_36 : decode cX5_runsIn 36 = .ok (.sipush 256, 3) := by decide +kernel
theorem dX5_runsIn_39 : decode cX5_runsIn 39 = .ok (.irem, 1) := by decide +kernel
theorem dX5_runsIn_40 : decode cX5_runsIn 40 = .ok (.ifCond .eq 15, 3) := by decide +kernel
theorem dX5_runsIn_43 : decode cX5_runsIn 43 = .ok (.aload_n 0, 1) := by decide +kernel
theorem dX5_runsIn_44 : decode cX5_runsIn 44 = .ok (.iload_n 1, 1) := by decide +kernel
theorem dX5_runsIn_45 : decode cX5_runsIn 45 = .ok (.iload 4, 2) := by decide +kernel
theorem dX5_runsIn_47 : decode cX5_runsIn 47 = .ok (.iconst 1, 1) := by decide +kernel
theorem dX5_runsIn_48 : decode cX5_runsIn 48 = .ok (.isub, 1) := by decide +kernel
theorem dX5_runsIn_49 : decode cX5_runsIn 49 = .ok (.invokevirtual 51, 3) := by decide +kernel
theorem dX5_runsIn_52 : decode cX5_runsIn 52 = .ok (.ifCond .ne 7, 3) := by decide +kernel
theorem dX5_runsIn_55 : decode cX5_runsIn 55 = .ok (.iconst 1, 1) := by decide +kernel
theorem dX5_runsIn_56 : decode cX5_runsIn 56 = .ok (.goto 4, 3) := by decide +kernel
theorem dX5_runsIn_59 : decode cX5_runsIn 59 = .ok (.iconst 0, 1) := by decide +kernel
theorem dX5_runsIn_60 : decode cX5_runsIn 60 = .ok (.iadd, 1) := by decide +kernel
theorem dX5_runsIn_61 : decode cX5_runsIn 61 = .ok (.istore_n 3, 1) := by decide +kernel
theorem dX5_runsIn_62 : decode cX5_runsIn 62 = .ok (.iinc 4 1, 3) := by decide +kernel
theorem dX5_runsIn_65 : decode cX5_runsIn 65 = .ok (.goto (-56), 3) := by decide +kernel
theorem dX5_runsIn_68 : decode cX5_runsIn 68 = .ok (.iload_n 3, 1) := by decide +kernel
theorem dX5_runsIn_69 : decode cX5_runsIn 69 = .ok (.ireturn, 1) := by decide +kernel
theorem dX5_holds_0 : decode cX5_holds 0 = .ok (.iload_n 0, 1) := by decide +kernel
theorem dX5_holds_1 : decode cX5_holds 1 = .ok (.ifCond .ne 17, 3) := by decide +kernel
theorem dX5_holds_4 : decode cX5_holds 4 = .ok (.iload_n 1, 1) := by decide +kernel
theorem dX5_holds_5 : decode cX5_holds 5 = .ok (.bipush 24, 2) := by decide +kernel
theorem dX5_holds_7 : decode cX5_holds 7 = .ok (.if_icmp .gt 7, 3) := by decide +kernel
theorem dX5_holds_10 : decode cX5_holds 10 = .ok (.iconst 1, 1) := by decide +kernel
theorem dX5_holds_11 : decode cX5_holds 11 = .ok (.goto 23, 3) := by decide +kernel
theorem dX5_holds_14 : decode cX5_holds 14 = .ok (.iconst 0, 1) := by decide +kernel
theorem dX5_holds_15 : decode cX5_holds 15 = .ok (.goto 19, 3) := by decide +kernel
theorem dX5_holds_18 : decode cX5_holds 18 = .ok (.iload_n 0, 1) := by decide +kernel
theorem dX5_holds_19 : decode cX5_holds 19 = .ok (.iconst 1, 1) := by decide +kernel
theorem dX5_holds_20 : decode cX5_holds 20 = .ok (.if_icmp .eq 9, 3) := by decide +kernel
theorem dX5_holds_23 : decode cX5_holds 23 = .ok (.iload_n 2, 1) := by decide +kernel
theorem dX5_holds_24 : decode cX5_holds 24 = .ok (.bipush 8, 2) := by decide +kernel
theorem dX5_holds_26 : decode cX5_holds 26 = .ok (.if_icmp .gt 7, 3) := by decide +kernel
theorem dX5_holds_29 : decode cX5_holds 29 = .ok (.iconst 1, 1) := by decide +kernel
theorem dX5_holds_30 : decode cX5_holds 30 = .ok (.goto 4, 3) := by decide +kernel
theorem dX5_holds_33 : decode cX5_holds 33 = .ok (.iconst 0, 1) := by decide +kernel
theorem dX5_holds_34 : decode cX5_holds 34 = .ok (.ireturn, 1) := by decide +kernel
theorem dX5_units_0 : decode cX5_units 0 = .ok (.iload_n 0, 1) := by decide +kernel
theorem dX5_units_1 : decode cX5_units 1 = .ok (.ifCond .ne 9, 3) := by decide +kernel
theorem dX5_units_4 : decode cX5_units 4 = .ok (.iconst 2, 1) := by decide +kernel
theorem dX5_units_5 : decode cX5_units 5 = .ok (.iload_n 1, 1) := by decide +kernel
theorem dX5_units_6 : decode cX5_units 6 = .ok (.imul, 1) := by decide +kernel
theorem dX5_units_7 : decode cX5_units 7 = .ok (.goto 16, 3) := by decide +kernel
theorem dX5_units_10 : decode cX5_units 10 = .ok (.iload_n 0, 1) := by decide +kernel
theorem dX5_units_11 : decode cX5_units 11 = .ok (.iconst 1, 1) := by decide +kernel
theorem dX5_units_12 : decode cX5_units 12 = .ok (.if_icmp .ne 8, 3) := by decide +kernel
theorem dX5_units_15 : decode cX5_units 15 = .ok (.bipush 32, 2) := by decide +kernel
theorem dX5_units_17 : decode cX5_units 17 = .ok (.goto 6, 3) := by decide +kernel
theorem dX5_units_20 : decode cX5_units 20 = .ok (.iconst 3, 1) := by decide +kernel
theorem dX5_units_21 : decode cX5_units 21 = .ok (.iload_n 2, 1) := by decide +kernel
theorem dX5_units_22 : decode cX5_units 22 = .ok (.imul, 1) := by decide +kernel
theorem dX5_units_23 : decode cX5_units 23 = .ok (.ireturn, 1) := by decide +kernel
set_option maxRecDepth 20000 in
theorem ggX5_best_X5_holds : GoodIn wsX5_best wsX5_holds := goodIn_r _ [4] (by decide +kernel) (by decide +kernel)
set_option maxRecDepth 20000 in
theorem gX5_best_X5_holds : GoodIn wsX5_best (va_wsS RX5 55 yX5_holds wsX5_holds) := goodIn_app (goodIn_of _ (by decide +kernel)) ggX5_best_X5_holds
set_option maxRecDepth 20000 in
theorem ggX5_best_X5_units : GoodIn wsX5_best wsX5_units := goodIn_r _ [7] (by decide +kernel) (by decide +kernel)
set_option maxRecDepth 20000 in
theorem gX5_best_X5_units : GoodIn wsX5_best (va_wsS RX5 58 yX5_units wsX5_units) := goodIn_app (goodIn_of _ (by decide +kernel)) ggX5_best_X5_units
theorem dX5_best_0 : decode cX5_best 0 = .ok (.iconst 1, 1) := by decide +kernel
theorem dX5_best_1 : decode cX5_best 1 = .ok (.istore_n 2, 1) := by decide +kernel
theorem dX5_best_2 : decode cX5_best 2 = .ok (.iconst 2, 1) := by decide +kernel
theorem dX5_best_3 : decode cX5_best 3 = .ok (.iload_n 0, 1) := by decide +kernel
theorem dX5_best_4 : decode cX5_best 4 = .ok (.iload_n 1, 1) := by decide +kernel
theorem dX5_best_5 : decode cX5_best 5 = .ok (.invokestatic 55, 3) := by decide +kernel
theorem dX5_best_8 : decode cX5_best 8 = .ok (.ifCond .eq 22, 3) := by decide +kernel
theorem dX5_best_11 : decode cX5_best 11 = .ok (.iconst 2, 1) := by decide +kernel
theorem dX5_best_12 : decode cX5_best 12 = .ok (.iload_n 0, 1) := by decide +kernel
theorem dX5_best_13 : decode cX5_best 13 = .ok (.iload_n 1, 1) := by decide +kernel
theorem dX5_best_14 : decode cX5_best 14 = .ok (.invokestatic 58, 3) := by decide +kernel
theorem dX5_best_17 : decode cX5_best 17 = .ok (.iload_n 2, 1) := by decide +kernel
theorem dX5_best_18 : decode cX5_best 18 = .ok (.iload_n 0, 1) := by decide +kernel
theorem dX5_best_19 : decode cX5_best 19 = .ok (.iload_n 1, 1) := by decide +kernel
theorem dX5_best_20 : decode cX5_best 20 = .ok (.invokestatic 58, 3) := by decide +kernel
theorem dX5_best_23 : decode cX5_best 23 = .ok (.if_icmp .ge 7, 3) := by decide +kernel
theorem dX5_best_26 : decode cX5_best 26 = .ok (.iconst 2, 1) := by decide +kernel
theorem dX5_best_27 : decode cX5_best 27 = .ok (.goto 4, 3) := by decide +kernel
theorem dX5_best_30 : decode cX5_best 30 = .ok (.iload_n 2, 1) := by decide +kernel
theorem dX5_best_31 : decode cX5_best 31 = .ok (.istore_n 2, 1) := by decide +kernel
theorem dX5_best_32 : decode cX5_best 32 = .ok (.iconst 0, 1) := by decide +kernel
theorem dX5_best_33 : decode cX5_best 33 = .ok (.iload_n 0, 1) := by decide +kernel
theorem dX5_best_34 : decode cX5_best 34 = .ok (.iload_n 1, 1) := by decide +kernel
theorem dX5_best_35 : decode cX5_best 35 = .ok (.invokestatic 55, 3) := by decide +kernel
theorem dX5_best_38 : decode cX5_best 38 = .ok (.ifCond .eq 22, 3) := by decide +kernel
theorem dX5_best_41 : decode cX5_best 41 = .ok (.iconst 0, 1) := by decide +kernel
theorem dX5_best_42 : decode cX5_best 42 = .ok (.iload_n 0, 1) := by decide +kernel
theorem dX5_best_43 : decode cX5_best 43 = .ok (.iload_n 1, 1) := by decide +kernel
theorem dX5_best_44 : decode cX5_best 44 = .ok (.invokestatic 58, 3) := by decide +kernel
theorem dX5_best_47 : decode cX5_best 47 = .ok (.iload_n 2, 1) := by decide +kernel
theorem dX5_best_48 : decode cX5_best 48 = .ok (.iload_n 0, 1) := by decide +kernel
theorem dX5_best_49 : decode cX5_best 49 = .ok (.iload_n 1, 1) := by decide +kernel
theorem dX5_best_50 : decode cX5_best 50 = .ok (.invokestatic 58, 3) := by decide +kernel
theorem dX5_best_53 : decode cX5_best 53 = .ok (.if_icmp .gt 7, 3) := by decide +kernel
theorem dX5_best_56 : decode cX5_best 56 = .ok (.iconst 0, 1) := by decide +kernel
theorem dX5_best_57 : decode cX5_best 57 = .ok (.goto 4, 3) := by decide +kernel
theorem dX5_best_60 : decode cX5_best 60 = .ok (.iload_n 2, 1) := by decide +kernel
theorem dX5_best_61 : decode cX5_best 61 = .ok (.ireturn, 1) := by decide +kernel
set_option maxRecDepth 20000 in
theorem ggX5_unitsOf_X5_kindOf : GoodIn wsX5_unitsOf wsX5_kindOf := goodIn_r _ [5, 6, 7, 8, 4, 9, 10, 26, 27, 28, 29, 30, 31, 32, 33, 34, 35, 36, 37, 38] (by decide +kernel) (by decide +kernel)
set_option maxRecDepth 20000 in
theorem gX5_unitsOf_X5_kindOf : GoodIn wsX5_unitsOf (wsV RX5 62 RX5 yX5_kindOf wsX5_kindOf) := goodIn_app (goodIn_of _ (by decide +kernel)) ggX5_unitsOf_X5_kindOf
set_option maxRecDepth 20000 in
theorem ggX5_unitsOf_X5_manyIn : GoodIn wsX5_unitsOf wsX5_manyIn := goodIn_r _ [14, 15, 16, 17, 4, 18, 6, 7, 8, 9, 10, 26, 27, 28, 29, 30, 31, 32, 33, 34, 35, 36, 37, 38] (by decide +kernel) (by decide +kernel)
set_option maxRecDepth 20000 in
theorem gX5_unitsOf_X5_manyIn : GoodIn wsX5_unitsOf (wsV RX5 65 RX5 yX5_manyIn wsX5_manyIn) := goodIn_app (goodIn_of _ (by decide +kernel)) ggX5_unitsOf_X5_manyIn
set_option maxRecDepth 20000 in
theorem ggX5_unitsOf_X5_runsIn : GoodIn wsX5_unitsOf wsX5_runsIn := goodIn_r _ [22, 15, 16, 17, 4, 18, 6, 7, 8, 9, 10, 26, 27, 28, 29, 30, 31, 32, 33, 34, 35, 36, 37, 38] (by decide +kernel) (by decide +kernel)
set_option maxRecDepth 20000 in
theorem gX5_unitsOf_X5_runsIn : GoodIn wsX5_unitsOf (wsV RX5 68 RX5 yX5_runsIn wsX5_runsIn) := goodIn_app (goodIn_of _ (by decide +kernel)) ggX5_unitsOf_X5_runsIn
set_option maxRecDepth 20000 in
theorem ggX5_unitsOf_X5_units : GoodIn wsX5_unitsOf wsX5_units := goodIn_r _ [25] (by decide +kernel) (by decide +kernel)
set_option maxRecDepth 20000 in
theorem gX5_unitsOf_X5_units : GoodIn wsX5_unitsOf (va_wsS RX5 58 yX5_units wsX5_units) := goodIn_app (goodIn_of _ (by decide +kernel)) ggX5_unitsOf_X5_units
theorem dX5_unitsOf_0 : decode cX5_unitsOf 0 = .ok (.aload_n 0, 1) := by decide +kernel
theorem dX5_unitsOf_1 : decode cX5_unitsOf 1 = .ok (.iload_n 1, 1) := by decide +kernel
theorem dX5_unitsOf_2 : decode cX5_unitsOf 2 = .ok (.iload_n 2, 1) := by decide +kernel
theorem dX5_unitsOf_3 : decode cX5_unitsOf 3 = .ok (.invokevirtual 62, 3) := by decide +kernel
theorem dX5_unitsOf_6 : decode cX5_unitsOf 6 = .ok (.aload_n 0, 1) := by decide +kernel
theorem dX5_unitsOf_7 : decode cX5_unitsOf 7 = .ok (.iload_n 1, 1) := by decide +kernel
theorem dX5_unitsOf_8 : decode cX5_unitsOf 8 = .ok (.iload_n 2, 1) := by decide +kernel
theorem dX5_unitsOf_9 : decode cX5_unitsOf 9 = .ok (.invokevirtual 65, 3) := by decide +kernel
theorem dX5_unitsOf_12 : decode cX5_unitsOf 12 = .ok (.aload_n 0, 1) := by decide +kernel
theorem dX5_unitsOf_13 : decode cX5_unitsOf 13 = .ok (.iload_n 1, 1) := by decide +kernel
theorem dX5_unitsOf_14 : decode cX5_unitsOf 14 = .ok (.iload_n 2, 1) := by decide +kernel
theorem dX5_unitsOf_15 : decode cX5_unitsOf 15 = .ok (.invokevirtual 68, 3) := by decide +kernel
theorem dX5_unitsOf_18 : decode cX5_unitsOf 18 = .ok (.invokestatic 58, 3) := by decide +kernel
theorem dX5_unitsOf_21 : decode cX5_unitsOf 21 = .ok (.ireturn, 1) := by decide +kernel
set_option maxRecDepth 20000 in
theorem ggX5_bestOf_X5_manyIn : GoodIn wsX5_bestOf wsX5_manyIn := goodIn_r _ [5, 6, 7, 8, 4, 9, 10, 11, 12, 13, 14, 28, 29, 30, 31, 32, 33, 34, 35, 36, 37, 38, 39, 40] (by decide +kernel) (by decide +kernel)
set_option maxRecDepth 20000 in
theorem gX5_bestOf_X5_manyIn : GoodIn wsX5_bestOf (wsV RX5 65 RX5 yX5_manyIn wsX5_manyIn) := goodIn_app (goodIn_of _ (by decide +kernel)) ggX5_bestOf_X5_manyIn
set_option maxRecDepth 20000 in
theorem ggX5_bestOf_X5_runsIn : GoodIn wsX5_bestOf wsX5_runsIn := goodIn_r _ [18, 6, 7, 8, 4, 9, 10, 11, 12, 13, 14, 28, 29, 30, 31, 32, 33, 34, 35, 36, 37, 38, 39, 40] (by decide +kernel) (by decide +kernel)
set_option maxRecDepth 20000 in
theorem gX5_bestOf_X5_runsIn : GoodIn wsX5_bestOf (wsV RX5 68 RX5 yX5_runsIn wsX5_runsIn) := goodIn_app (goodIn_of _ (by decide +kernel)) ggX5_bestOf_X5_runsIn
set_option maxRecDepth 20000 in
theorem ggX5_bestOf_X5_best : GoodIn wsX5_bestOf wsX5_best := goodIn_r _ [21, 22, 23, 4, 24, 25, 26, 27] (by decide +kernel) (by decide +kernel)
set_option maxRecDepth 20000 in
theorem gX5_bestOf_X5_best : GoodIn wsX5_bestOf (va_wsS RX5 71 yX5_best wsX5_best) := goodIn_app (goodIn_of _ (by decide +kernel)) ggX5_bestOf_X5_best
theorem dX5_bestOf_0 : decode cX5_bestOf 0 = .ok (.aload_n 0, 1) := by decide +kernel
theorem dX5_bestOf_1 : decode cX5_bestOf 1 = .ok (.iload_n 1, 1) := by decide +kernel
theorem dX5_bestOf_2 : decode cX5_bestOf 2 = .ok (.iload_n 2, 1) := by decide +kernel
theorem dX5_bestOf_3 : decode cX5_bestOf 3 = .ok (.invokevirtual 65, 3) := by decide +kernel
theorem dX5_bestOf_6 : decode cX5_bestOf 6 = .ok (.aload_n 0, 1) := by decide +kernel
theorem dX5_bestOf_7 : decode cX5_bestOf 7 = .ok (.iload_n 1, 1) := by decide +kernel
theorem dX5_bestOf_8 : decode cX5_bestOf 8 = .ok (.iload_n 2, 1) := by decide +kernel
theorem dX5_bestOf_9 : decode cX5_bestOf 9 = .ok (.invokevirtual 68, 3) := by decide +kernel
theorem dX5_bestOf_12 : decode cX5_bestOf 12 = .ok (.invokestatic 71, 3) := by decide +kernel
theorem dX5_bestOf_15 : decode cX5_bestOf 15 = .ok (.ireturn, 1) := by decide +kernel
set_option maxRecDepth 20000 in
theorem ggX5_tollOf_X5_bestOf : GoodIn wsX5_tollOf wsX5_bestOf := goodIn_r _ [5, 6, 7, 8, 4, 9, 10, 11, 12, 13, 14, 15, 16, 17, 18, 19, 20, 21, 22, 23, 24, 25, 26, 27, 28, 29, 30, 31, 36, 37, 38, 39, 40, 41, 42, 43, 44, 45, 46, 47, 48] (by decide +kernel) (by decide +kernel)
set_option maxRecDepth 20000 in
theorem gX5_tollOf_X5_bestOf : GoodIn wsX5_tollOf (wsV RX5 74 RX5 yX5_bestOf wsX5_bestOf) := goodIn_app (goodIn_of _ (by decide +kernel)) ggX5_tollOf_X5_bestOf
set_option maxRecDepth 20000 in
theorem ggX5_tollOf_X5_kindOf : GoodIn wsX5_tollOf wsX5_kindOf := goodIn_r _ [35, 14, 15, 16, 4, 17, 18, 36, 37, 38, 39, 40, 41, 42, 43, 44, 45, 46, 47, 48] (by decide +kernel) (by decide +kernel)
set_option maxRecDepth 20000 in
theorem gX5_tollOf_X5_kindOf : GoodIn wsX5_tollOf (wsV RX5 62 RX5 yX5_kindOf wsX5_kindOf) := goodIn_app (goodIn_of _ (by decide +kernel)) ggX5_tollOf_X5_kindOf
set_option maxRecDepth 20000 in
theorem ggX5_tollOf_X5_manyIn : GoodIn wsX5_tollOf wsX5_manyIn := goodIn_r _ [9, 10, 11, 12, 4, 13, 14, 15, 16, 17, 18, 36, 37, 38, 39, 40, 41, 42, 43, 44, 45, 46, 47, 48] (by decide +kernel) (by decide +kernel)
set_option maxRecDepth 20000 in
theorem gX5_tollOf_X5_manyIn : GoodIn wsX5_tollOf (wsV RX5 65 RX5 yX5_manyIn wsX5_manyIn) := goodIn_app (goodIn_of _ (by decide +kernel)) ggX5_tollOf_X5_manyIn
set_option maxRecDepth 20000 in
theorem ggX5_tollOf_X5_runsIn : GoodIn wsX5_tollOf wsX5_runsIn := goodIn_r _ [22, 10, 11, 12, 4, 13, 14, 15, 16, 17, 18, 36, 37, 38, 39, 40, 41, 42, 43, 44, 45, 46, 47, 48] (by decide +kernel) (by decide +kernel)
set_option maxRecDepth 20000 in
theorem gX5_tollOf_X5_runsIn : GoodIn wsX5_tollOf (wsV RX5 68 RX5 yX5_runsIn wsX5_runsIn) := goodIn_app (goodIn_of _ (by decide +kernel)) ggX5_tollOf_X5_runsIn
set_option maxRecDepth 20000 in
theorem ggX5_tollOf_X5_units : GoodIn wsX5_tollOf wsX5_units := goodIn_r _ [31] (by decide +kernel) (by decide +kernel)
set_option maxRecDepth 20000 in
theorem gX5_tollOf_X5_units : GoodIn wsX5_tollOf (va_wsS RX5 58 yX5_units wsX5_units) := goodIn_app (goodIn_of _ (by decide +kernel)) ggX5_tollOf_X5_units
theorem dX5_tollOf_0 : decode cX5_tollOf 0 = .ok (.aload_n 0, 1) := by decide +kernel
theorem dX5_tollOf_1 : decode cX5_tollOf 1 = .ok (.iload_n 1, 1) := by decide +kernel
theorem dX5_tollOf_2 : decode cX5_tollOf 2 = .ok (.iload_n 2, 1) := by decide +kernel
theorem dX5_tollOf_3 : decode cX5_tollOf 3 = .ok (.invokevirtual 74, 3) := by decide +kernel
theorem dX5_tollOf_6 : decode cX5_tollOf 6 = .ok (.istore_n 3, 1) := by decide +kernel
theorem dX5_tollOf_7 : decode cX5_tollOf 7 = .ok (.iload_n 3, 1) := by decide +kernel
theorem dX5_tollOf_8 : decode cX5_tollOf 8 = .ok (.aload_n 0, 1) := by decide +kernel
theorem dX5_tollOf_9 : decode cX5_tollOf 9 = .ok (.iload_n 1, 1) := by decide +kernel
theorem dX5_tollOf_10 : decode cX5_tollOf 10 = .ok (.iload_n 2, 1) := by decide +kernel
theorem dX5_tollOf_11 : decode cX5_tollOf 11 = .ok (.invokevirtual 62, 3) := by decide +kernel
theorem dX5_tollOf_14 : decode cX5_tollOf 14 = .ok (.if_icmp .ne 7, 3) := by decide +kernel
theorem dX5_tollOf_17 : decode cX5_tollOf 17 = .ok (.iconst 0, 1) := by decide +kernel
theorem dX5_tollOf_18 : decode cX5_tollOf 18 = .ok (.goto 19, 3) := by decide +kernel
theorem dX5_tollOf_21 : decode cX5_tollOf 21 = .ok (.iload_n 3, 1) := by decide +kernel
theorem dX5_tollOf_22 : decode cX5_tollOf 22 = .ok (.aload_n 0, 1) := by decide +kernel
theorem dX5_tollOf_23 : decode cX5_tollOf 23 = .ok (.iload_n 1, 1) := by decide +kernel
theorem dX5_tollOf_24 : decode cX5_tollOf 24 = .ok (.iload_n 2, 1) := by decide +kernel
theorem dX5_tollOf_25 : decode cX5_tollOf 25 = .ok (.invokevirtual 65, 3) := by decide +kernel
theorem dX5_tollOf_28 : decode cX5_tollOf 28 = .ok (.aload_n 0, 1) := by decide +kernel
theorem dX5_tollOf_29 : decode cX5_tollOf 29 = .ok (.iload_n 1, 1) := by decide +kernel
theorem dX5_tollOf_30 : decode cX5_tollOf 30 = .ok (.iload_n 2, 1) := by decide +kernel
theorem dX5_tollOf_31 : decode cX5_tollOf 31 = .ok (.invokevirtual 68, 3) := by decide +kernel
theorem dX5_tollOf_34 : decode cX5_tollOf 34 = .ok (.invokestatic 58, 3) := by decide +kernel
theorem dX5_tollOf_37 : decode cX5_tollOf 37 = .ok (.ireturn, 1) := by decide +kernel
set_option maxRecDepth 20000 in
theorem ggX5_becomes_X5_tollOf : GoodIn wsX5_becomes wsX5_tollOf := goodIn_r _ [5, 6, 7, 8, 4, 9, 10, 11, 12, 13, 14, 15, 16, 17, 18, 19, 20, 21, 22, 23, 24, 25, 26, 27, 28, 29, 30, 31, 32, 33, 34, 35, 36, 37, 38, 39, 44, 45, 46, 47, 48, 49, 50, 51, 52, 53, 54, 55, 56] (by decide +kernel) (by decide +kernel)
set_option maxRecDepth 20000 in
theorem gX5_becomes_X5_tollOf : GoodIn wsX5_becomes (wsV RX5 77 RX5 yX5_tollOf wsX5_tollOf) := goodIn_app (goodIn_of _ (by decide +kernel)) ggX5_becomes_X5_tollOf
set_option maxRecDepth 20000 in
theorem ggX5_becomes_X5_bestOf : GoodIn wsX5_becomes wsX5_bestOf := goodIn_r _ [9, 10, 11, 12, 4, 13, 14, 15, 16, 17, 18, 19, 20, 21, 22, 23, 24, 25, 26, 27, 28, 29, 30, 31, 32, 33, 34, 35, 44, 45, 46, 47, 48, 49, 50, 51, 52, 53, 54, 55, 56] (by decide +kernel) (by decide +kernel)
set_option maxRecDepth 20000 in
theorem gX5_becomes_X5_bestOf : GoodIn wsX5_becomes (wsV RX5 74 RX5 yX5_bestOf wsX5_bestOf) := goodIn_app (goodIn_of _ (by decide +kernel)) ggX5_becomes_X5_bestOf
set_option maxRecDepth 20000 in
theorem ggX5_becomes_X5_lays : GoodIn wsX5_becomes wsX5_lays := goodIn_r _ [43, 22, 44, 45, 46, 47, 48, 49, 50, 51, 52, 53, 54, 55, 56] (by decide +kernel) (by decide +kernel)
set_option maxRecDepth 20000 in
theorem gX5_becomes_X5_lays : GoodIn wsX5_becomes (wsV RX5 47 RX5 yX5_lays wsX5_lays) := goodIn_app (goodIn_of _ (by decide +kernel)) ggX5_becomes_X5_lays
set_option maxRecDepth 20000 in
theorem ggX5_becomes_X5_of : GoodIn wsX5_becomes wsX5_of := goodIn_r _ [21, 22, 44, 45, 46, 47, 48, 49, 50, 51, 52, 53, 54, 55, 56] (by decide +kernel) (by decide +kernel)
set_option maxRecDepth 20000 in
theorem gX5_becomes_X5_of : GoodIn wsX5_becomes (wsV RX5 43 RX5 yX5_of wsX5_of) := goodIn_app (goodIn_of _ (by decide +kernel)) ggX5_becomes_X5_of
theorem dX5_becomes_0 : decode cX5_becomes 0 = .ok (.aload_n 0, 1) := by decide +kernel
theorem dX5_becomes_1 : decode cX5_becomes 1 = .ok (.iload_n 1, 1) := by decide +kernel
theorem dX5_becomes_2 : decode cX5_becomes 2 = .ok (.iload_n 2, 1) := by decide +kernel
theorem dX5_becomes_3 : decode cX5_becomes 3 = .ok (.invokevirtual 77, 3) := by decide +kernel
theorem dX5_becomes_6 : decode cX5_becomes 6 = .ok (.istore_n 3, 1) := by decide +kernel
theorem dX5_becomes_7 : decode cX5_becomes 7 = .ok (.aload_n 0, 1) := by decide +kernel
theorem dX5_becomes_8 : decode cX5_becomes 8 = .ok (.iload_n 1, 1) := by decide +kernel
theorem dX5_becomes_9 : decode cX5_becomes 9 = .ok (.iconst 3, 1) := by decide +kernel
theorem dX5_becomes_10 : decode cX5_becomes 10 = .ok (.iload_n 2, 1) := by decide +kernel
theorem dX5_becomes_11 : decode cX5_becomes 11 = .ok (.iadd, 1) := by decide +kernel
theorem dX5_becomes_12 : decode cX5_becomes 12 = .ok (.aload_n 0, 1) := by decide +kernel
theorem dX5_becomes_13 : decode cX5_becomes 13 = .ok (.iload_n 1, 1) := by decide +kernel
theorem dX5_becomes_14 : decode cX5_becomes 14 = .ok (.iload_n 2, 1) := by decide +kernel
theorem dX5_becomes_15 : decode cX5_becomes 15 = .ok (.invokevirtual 74, 3) := by decide +kernel
theorem dX5_becomes_18 : decode cX5_becomes 18 = .ok (.iconst 1, 1) := by decide +kernel
theorem dX5_becomes_19 : decode cX5_becomes 19 = .ok (.iadd, 1) := by decide +kernel
theorem dX5_becomes_20 : decode cX5_becomes 20 = .ok (.invokevirtual 47, 3) := by decide +kernel
theorem dX5_becomes_23 : decode cX5_becomes 23 = .ok (.aload_n 0, 1) := by decide +kernel
theorem dX5_becomes_24 : decode cX5_becomes 24 = .ok (.iload_n 1, 1) := by decide +kernel
theorem dX5_becomes_25 : decode cX5_becomes 25 = .ok (.iconst 0, 1) := by decide +kernel
theorem dX5_becomes_26 : decode cX5_becomes 26 = .ok (.aload_n 0, 1) := by decide +kernel
theorem dX5_becomes_27 : decode cX5_becomes 27 = .ok (.iload_n 1, 1) := by decide +kernel
theorem dX5_becomes_28 : decode cX5_becomes 28 = .ok (.iconst 0, 1) := by decide +kernel
theorem dX5_becomes_29 : decode cX5_becomes 29 = .ok (.invokevirtual 43, 3) := by decide +kernel
theorem dX5_becomes_32 : decode cX5_becomes 32 = .ok (.iload_n 3, 1) := by decide +kernel
theorem dX5_becomes_33 : decode cX5_becomes 33 = .ok (.isub, 1) := by decide +kernel
theorem dX5_becomes_34 : decode cX5_becomes 34 = .ok (.invokevirtual 47, 3) := by decide +kernel
theorem dX5_becomes_37 : decode cX5_becomes 37 = .ok (.aload_n 0, 1) := by decide +kernel
theorem dX5_becomes_38 : decode cX5_becomes 38 = .ok (.iload_n 1, 1) := by decide +kernel
theorem dX5_becomes_39 : decode cX5_becomes 39 = .ok (.iconst 2, 1) := by decide +kernel
theorem dX5_becomes_40 : decode cX5_becomes 40 = .ok (.aload_n 0, 1) := by decide +kernel
theorem dX5_becomes_41 : decode cX5_becomes 41 = .ok (.iload_n 1, 1) := by decide +kernel
theorem dX5_becomes_42 : decode cX5_becomes 42 = .ok (.iconst 2, 1) := by decide +kernel
theorem dX5_becomes_43 : decode cX5_becomes 43 = .ok (.invokevirtual 43, 3) := by decide +kernel
theorem dX5_becomes_46 : decode cX5_becomes 46 = .ok (.iload_n 3, 1) := by decide +kernel
theorem dX5_becomes_47 : decode cX5_becomes 47 = .ok (.iadd, 1) := by decide +kernel
theorem dX5_becomes_48 : decode cX5_becomes 48 = .ok (.invokevirtual 47, 3) := by decide +kernel
theorem dX5_becomes_51 : decode cX5_becomes 51 = .ok (.return_, 1) := by decide +kernel
set_option maxRecDepth 20000 in
theorem ggX5_goes_X5_puts : GoodIn wsX5_goes wsX5_puts := goodIn_r _ [5, 6, 7, 8, 4, 9, 10, 11, 12, 13, 14, 52, 53, 54, 55, 56, 57, 58, 59, 60, 61, 62, 63, 64] (by decide +kernel) (by decide +kernel)
set_option maxRecDepth 20000 in
theorem gX5_goes_X5_puts : GoodIn wsX5_goes (wsV RX5 80 RX5 yX5_puts wsX5_puts) := goodIn_app (goodIn_of _ (by decide +kernel)) ggX5_goes_X5_puts
set_option maxRecDepth 20000 in
theorem ggX5_goes_X5_kindOf : GoodIn wsX5_goes wsX5_kindOf := goodIn_r _ [18, 6, 7, 8, 4, 9, 10, 52, 53, 54, 55, 56, 57, 58, 59, 60, 61, 62, 63, 64] (by decide +kernel) (by decide +kernel)
set_option maxRecDepth 20000 in
theorem gX5_goes_X5_kindOf : GoodIn wsX5_goes (wsV RX5 62 RX5 yX5_kindOf wsX5_kindOf) := goodIn_app (goodIn_of _ (by decide +kernel)) ggX5_goes_X5_kindOf
set_option maxRecDepth 20000 in
theorem ggX5_goes_X5_lays : GoodIn wsX5_goes wsX5_lays := goodIn_r _ [14, 10, 52, 53, 54, 55, 56, 57, 58, 59, 60, 61, 62, 63, 64] (by decide +kernel) (by decide +kernel)
set_option maxRecDepth 20000 in
theorem gX5_goes_X5_lays : GoodIn wsX5_goes (wsV RX5 47 RX5 yX5_lays wsX5_lays) := goodIn_app (goodIn_of _ (by decide +kernel)) ggX5_goes_X5_lays
set_option maxRecDepth 20000 in
theorem ggX5_goes_X5_manyIn : GoodIn wsX5_goes wsX5_manyIn := goodIn_r _ [22, 23, 24, 25, 4, 26, 6, 7, 8, 9, 10, 52, 53, 54, 55, 56, 57, 58, 59, 60, 61, 62, 63, 64] (by decide +kernel) (by decide +kernel)
set_option maxRecDepth 20000 in
theorem gX5_goes_X5_manyIn : GoodIn wsX5_goes (wsV RX5 65 RX5 yX5_manyIn wsX5_manyIn) := goodIn_app (goodIn_of _ (by decide +kernel)) ggX5_goes_X5_manyIn
set_option maxRecDepth 20000 in
theorem ggX5_goes_X5_of : GoodIn wsX5_goes wsX5_of := goodIn_r _ [9, 10, 52, 53, 54, 55, 56, 57, 58, 59, 60, 61, 62, 63, 64] (by decide +kernel) (by decide +kernel)
set_option maxRecDepth 20000 in
theorem gX5_goes_X5_of : GoodIn wsX5_goes (wsV RX5 43 RX5 yX5_of wsX5_of) := goodIn_app (goodIn_of _ (by decide +kernel)) ggX5_goes_X5_of
set_option maxRecDepth 20000 in
theorem ggX5_goes_X5_bestOf : GoodIn wsX5_goes wsX5_bestOf := goodIn_r _ [30, 19, 20, 21, 4, 22, 23, 24, 25, 26, 6, 7, 8, 9, 10, 31, 32, 33, 34, 35, 36, 37, 38, 39, 40, 41, 42, 43, 52, 53, 54, 55, 56, 57, 58, 59, 60, 61, 62, 63, 64] (by decide +kernel) (by decide +kernel)
set_option maxRecDepth 20000 in
theorem gX5_goes_X5_bestOf : GoodIn wsX5_goes (wsV RX5 74 RX5 yX5_bestOf wsX5_bestOf) := goodIn_app (goodIn_of _ (by decide +kernel)) ggX5_goes_X5_bestOf
set_option maxRecDepth 20000 in
theorem ggX5_goes_X5_tollOf : GoodIn wsX5_goes wsX5_tollOf := goodIn_r _ [47, 27, 28, 29, 4, 30, 19, 20, 21, 22, 23, 24, 25, 26, 6, 7, 8, 9, 10, 31, 32, 33, 34, 35, 36, 37, 38, 39, 40, 41, 42, 43, 15, 16, 17, 18, 52, 53, 54, 55, 56, 57, 58, 59, 60, 61, 62, 63, 64] (by decide +kernel) (by decide +kernel)
set_option maxRecDepth 20000 in
theorem gX5_goes_X5_tollOf : GoodIn wsX5_goes (wsV RX5 77 RX5 yX5_tollOf wsX5_tollOf) := goodIn_app (goodIn_of _ (by decide +kernel)) ggX5_goes_X5_tollOf
set_option maxRecDepth 20000 in
theorem ggX5_goes_X5_becomes : GoodIn wsX5_goes wsX5_becomes := goodIn_r _ [51, 44, 45, 46, 4, 47, 27, 28, 29, 30, 19, 20, 21, 22, 23, 24, 25, 26, 6, 7, 8, 9, 10, 31, 32, 33, 34, 35, 36, 37, 38, 39, 40, 41, 42, 43, 15, 16, 17, 18, 11, 12, 13, 14, 52, 53, 54, 55, 56, 57, 58, 59, 60, 61, 62, 63, 64] (by decide +kernel) (by decide +kernel)
set_option maxRecDepth 20000 in
theorem gX5_goes_X5_becomes : GoodIn wsX5_goes (wsV RX5 84 RX5 yX5_becomes wsX5_becomes) := goodIn_app (goodIn_of _ (by decide +kernel)) ggX5_goes_X5_becomes
set_option maxRecDepth 20000 in
theorem ggX5_goes_X5_runsIn : GoodIn wsX5_goes wsX5_runsIn := goodIn_r _ [34, 23, 24, 25, 4, 26, 6, 7, 8, 9, 10, 52, 53, 54, 55, 56, 57, 58, 59, 60, 61, 62, 63, 64] (by decide +kernel) (by decide +kernel)
set_option maxRecDepth 20000 in
theorem gX5_goes_X5_runsIn : GoodIn wsX5_goes (wsV RX5 68 RX5 yX5_runsIn wsX5_runsIn) := goodIn_app (goodIn_of _ (by decide +kernel)) ggX5_goes_X5_runsIn
set_option maxRecDepth 20000 in
theorem ggX5_goes_X5_holds : GoodIn wsX5_goes wsX5_holds := goodIn_r _ [40] (by decide +kernel) (by decide +kernel)
set_option maxRecDepth 20000 in
theorem gX5_goes_X5_holds : GoodIn wsX5_goes (va_wsS RX5 55 yX5_holds wsX5_holds) := goodIn_app (goodIn_of _ (by decide +kernel)) ggX5_goes_X5_holds
theorem dX5_goes_0 : decode cX5_goes 0 = .ok (.iload_n 2, 1) := by decide +kernel
theorem dX5_goes_1 : decode cX5_goes 1 = .ok (.sipush 256, 3) := by decide +kernel
theorem dX5_goes_4 : decode cX5_goes 4 = .ok (.idiv, 1) := by decide +kernel
theorem dX5_goes_5 : decode cX5_goes 5 = .ok (.istore 4, 2) := by decide +kernel
theorem dX5_goes_7 : decode cX5_goes 7 = .ok (.aload_n 0, 1) := by decide +kernel
theorem dX5_goes_8 : decode cX5_goes 8 = .ok (.iload_n 1, 1) := by decide +kernel
theorem dX5_goes_9 : decode cX5_goes 9 = .ok (.iload_n 2, 1) := by decide +kernel
theorem dX5_goes_10 : decode cX5_goes 10 = .ok (.iload_n 3, 1) := by decide +kernel
theorem dX5_goes_11 : decode cX5_goes 11 = .ok (.invokevirtual 80, 3) := by decide +kernel
theorem dX5_goes_14 : decode cX5_goes 14 = .ok (.aload_n 0, 1) := by decide +kernel
theorem dX5_goes_15 : decode cX5_goes 15 = .ok (.iload_n 1, 1) := by decide +kernel
theorem dX5_goes_16 : decode cX5_goes 16 = .ok (.iload 4, 2) := by decide +kernel
theorem dX5_goes_18 : decode cX5_goes 18 = .ok (.invokevirtual 62, 3) := by decide +kernel
theorem dX5_goes_21 : decode cX5_goes 21 = .ok (.ifCond .ge 13, 3) := by decide +kernel
theorem dX5_goes_24 : decode cX5_goes 24 = .ok (.aload_n 0, 1) := by decide +kernel
theorem dX5_goes_25 : decode cX5_goes 25 = .ok (.iload_n 1, 1) := by decide +kernel
theorem dX5_goes_26 : decode cX5_goes 26 = .ok (.iconst 3, 1) := by decide +kernel
theorem dX5_goes_27 : decode cX5_goes 27 = .ok (.iload 4, 2) := by decide +kernel
theorem dX5_goes_29 : decode cX5_goes 29 = .ok (.iadd, 1) := by decide +kernel
theorem dX5_goes_30 : decode cX5_goes 30 = .ok (.iconst 1, 1) := by decide +kernel
theorem dX5_goes_31 : decode cX5_goes 31 = .ok (.invokevirtual 47, 3) := by decide +kernel
theorem dX5_goes_34 : decode cX5_goes 34 = .ok (.aload_n 0, 1) := by decide +kernel
theorem dX5_goes_35 : decode cX5_goes 35 = .ok (.iload_n 1, 1) := by decide +kernel
theorem dX5_goes_36 : decode cX5_goes 36 = .ok (.iload 4, 2) := by decide +kernel
theorem dX5_goes_38 : decode cX5_goes 38 = .ok (.invokevirtual 65, 3) := by decide +kernel
theorem dX5_goes_41 : decode cX5_goes 41 = .ok (.ifCond .ne 15, 3) := by decide +kernel
theorem dX5_goes_44 : decode cX5_goes 44 = .ok (.aload_n 0, 1) := by decide +kernel
theorem dX5_goes_45 : decode cX5_goes 45 = .ok (.iload_n 1, 1) := by decide +kernel
theorem dX5_goes_46 : decode cX5_goes 46 = .ok (.iconst 3, 1) := by decide +kernel
theorem dX5_goes_47 : decode cX5_goes 47 = .ok (.iload 4, 2) := by decide +kernel
theorem dX5_goes_49 : decode cX5_goes 49 = .ok (.iadd, 1) := by decide +kernel
theorem dX5_goes_50 : decode cX5_goes 50 = .ok (.iconst 0, 1) := by decide +kernel
theorem dX5_goes_51 : decode cX5_goes 51 = .ok (.invokevirtual 47, 3) := by decide +kernel
theorem dX5_goes_54 : decode cX5_goes 54 = .ok (.iconst 1, 1) := by decide +kernel
theorem dX5_goes_55 : decode cX5_goes 55 = .ok (.ireturn, 1) := by decide +kernel
theorem dX5_goes_56 : decode cX5_goes 56 = .ok (.aload_n 0, 1) := by decide +kernel
theorem dX5_goes_57 : decode cX5_goes 57 = .ok (.iload_n 1, 1) := by decide +kernel
theorem dX5_goes_58 : decode cX5_goes 58 = .ok (.iconst 1, 1) := by decide +kernel
theorem dX5_goes_59 : decode cX5_goes 59 = .ok (.invokevirtual 43, 3) := by decide +kernel
theorem dX5_goes_62 : decode cX5_goes 62 = .ok (.ifCond .ne 43, 3) := by decide +kernel
theorem dX5_goes_65 : decode cX5_goes 65 = .ok (.aload_n 0, 1) := by decide +kernel
theorem dX5_goes_66 : decode cX5_goes 66 = .ok (.iload_n 1, 1) := by decide +kernel
theorem dX5_goes_67 : decode cX5_goes 67 = .ok (.iload 4, 2) := by decide +kernel
theorem dX5_goes_69 : decode cX5_goes 69 = .ok (.invokevirtual 74, 3) := by decide +kernel
theorem dX5_goes_72 : decode cX5_goes 72 = .ok (.aload_n 0, 1) := by decide +kernel
theorem dX5_goes_73 : decode cX5_goes 73 = .ok (.iload_n 1, 1) := by decide +kernel
theorem dX5_goes_74 : decode cX5_goes 74 = .ok (.iload 4, 2) := by decide +kernel
theorem dX5_goes_76 : decode cX5_goes 76 = .ok (.invokevirtual 62, 3) := by decide +kernel
theorem dX5_goes_79 : decode cX5_goes 79 = .ok (.if_icmp .eq 26, 3) := by decide +kernel
theorem dX5_goes_82 : decode cX5_goes 82 = .ok (.aload_n 0, 1) := by decide +kernel
theorem dX5_goes_83 : decode cX5_goes 83 = .ok (.iload_n 1, 1) := by decide +kernel
theorem dX5_goes_84 : decode cX5_goes 84 = .ok (.iconst 0, 1) := by decide +kernel
theorem dX5_goes_85 : decode cX5_goes 85 = .ok (.invokevirtual 43, 3) := by decide +kernel
theorem dX5_goes_88 : decode cX5_goes 88 = .ok (.aload_n 0, 1) := by decide +kernel
theorem dX5_goes_89 : decode cX5_goes 89 = .ok (.iload_n 1, 1) := by decide +kernel
theorem dX5_goes_90 : decode cX5_goes 90 = .ok (.iload 4, 2) := by decide +kernel
theorem dX5_goes_92 : decode cX5_goes 92 = .ok (.invokevirtual 77, 3) := by decide +kernel
theorem dX5_goes_95 : decode cX5_goes 95 = .ok (.if_icmp .lt 10, 3) := by decide +kernel
theorem dX5_goes_98 : decode cX5_goes 98 = .ok (.aload_n 0, 1) := by decide +kernel
theorem dX5_goes_99 : decode cX5_goes 99 = .ok (.iload_n 1, 1) := by decide +kernel
theorem dX5_goes_100 : decode cX5_goes 100 = .ok (.iload 4, 2) := by decide +kernel
theorem dX5_goes_102 : decode cX5_goes 102 = .ok (.invokevirtual 84, 3) := by decide +kernel
theorem dX5_goes_105 : decode cX5_goes 105 = .ok (.aload_n 0, 1) := by decide +kernel
theorem dX5_goes_106 : decode cX5_goes 106 = .ok (.iload_n 1, 1) := by decide +kernel
theorem dX5_goes_107 : decode cX5_goes 107 = .ok (.iload 4, 2) := by decide +kernel
theorem dX5_goes_109 : decode cX5_goes 109 = .ok (.invokevirtual 62, 3) := by decide +kernel
theorem dX5_goes_112 : decode cX5_goes 112 = .ok (.aload_n 0, 1) := by decide +kernel
theorem dX5_goes_113 : decode cX5_goes 113 = .ok (.iload_n 1, 1) := by decide +kernel
theorem dX5_goes_114 : decode cX5_goes 114 = .ok (.iload 4, 2) := by decide +kernel
theorem dX5_goes_116 : decode cX5_goes 116 = .ok (.invokevirtual 65, 3) := by decide +kernel
theorem dX5_goes_119 : decode cX5_goes 119 = .ok (.aload_n 0, 1) := by decide +kernel
theorem dX5_goes_120 : decode cX5_goes 120 = .ok (.iload_n 1, 1) := by decide +kernel
theorem dX5_goes_121 : decode cX5_goes 121 = .ok (.iload 4, 2) := by decide +kernel
theorem dX5_goes_123 : decode cX5_goes 123 = .ok (.invokevirtual 68, 3) := by decide +kernel
theorem dX5_goes_126 : decode cX5_goes 126 = .ok (.invokestatic 55, 3) := by decide +kernel
theorem dX5_goes_129 : decode cX5_goes 129 = .ok (.ireturn, 1) := by decide +kernel
set_option maxRecDepth 20000 in
theorem ggX5_newSet_X5_in : GoodIn wsX5_newSet wsX5_in := goodIn_r _ [5] (by decide +kernel) (by decide +kernel)
set_option maxRecDepth 20000 in
theorem gX5_newSet_X5_in : GoodIn wsX5_newSet (va_wsS RX5 39 yX5_in wsX5_in) := goodIn_app (goodIn_of _ (by decide +kernel)) ggX5_newSet_X5_in
set_option maxRecDepth 20000 in
theorem ggX5_newSet_X5_records : GoodIn wsX5_newSet wsX5_records := goodIn_r _ [9, 10, 11, 12, 13, 4, 14, 19, 20, 21, 22, 23, 24, 25, 26, 27, 28, 29, 30, 31] (by decide +kernel) (by decide +kernel)
set_option maxRecDepth 20000 in
theorem gX5_newSet_X5_records : GoodIn wsX5_newSet (wsV RX5 88 RX5 yX5_records wsX5_records) := goodIn_app (goodIn_of _ (by decide +kernel)) ggX5_newSet_X5_records
set_option maxRecDepth 20000 in
theorem ggX5_newSet_X5_lays : GoodIn wsX5_newSet wsX5_lays := goodIn_r _ [18, 1, 19, 20, 21, 22, 23, 24, 25, 26, 27, 28, 29, 30, 31] (by decide +kernel) (by decide +kernel)
set_option maxRecDepth 20000 in
theorem gX5_newSet_X5_lays : GoodIn wsX5_newSet (wsV RX5 47 RX5 yX5_lays wsX5_lays) := goodIn_app (goodIn_of _ (by decide +kernel)) ggX5_newSet_X5_lays
theorem dX5_newSet_0 : decode cX5_newSet 0 = .ok (.iload_n 1, 1) := by decide +kernel
theorem dX5_newSet_1 : decode cX5_newSet 1 = .ok (.iconst 0, 1) := by decide +kernel
theorem dX5_newSet_2 : decode cX5_newSet 2 = .ok (.sipush 9999, 3) := by decide +kernel
theorem dX5_newSet_5 : decode cX5_newSet 5 = .ok (.invokestatic 39, 3) := by decide +kernel
theorem dX5_newSet_8 : decode cX5_newSet 8 = .ok (.ifCond .ne 6, 3) := by decide +kernel
theorem dX5_newSet_11 : decode cX5_newSet 11 = .ok (.bipush (-2), 2) := by decide +kernel
theorem dX5_newSet_13 : decode cX5_newSet 13 = .ok (.ireturn, 1) := by decide +kernel
theorem dX5_newSet_14 : decode cX5_newSet 14 = .ok (.aload_n 0, 1) := by decide +kernel
theorem dX5_newSet_15 : decode cX5_newSet 15 = .ok (.getfield 7, 3) := by decide +kernel
theorem dX5_newSet_18 : decode cX5_newSet 18 = .ok (.iconst 0, 1) := by decide +kernel
theorem dX5_newSet_19 : decode cX5_newSet 19 = .ok (.iaload, 1) := by decide +kernel
theorem dX5_newSet_20 : decode cX5_newSet 20 = .ok (.bipush 6, 2) := by decide +kernel
theorem dX5_newSet_22 : decode cX5_newSet 22 = .ok (.if_icmp .ne 6, 3) := by decide +kernel
theorem dX5_newSet_25 : decode cX5_newSet 25 = .ok (.bipush (-3), 2) := by decide +kernel
theorem dX5_newSet_27 : decode cX5_newSet 27 = .ok (.ireturn, 1) := by decide +kernel
theorem dX5_newSet_28 : decode cX5_newSet 28 = .ok (.aload_n 0, 1) := by decide +kernel
theorem dX5_newSet_29 : decode cX5_newSet 29 = .ok (.aload_n 0, 1) := by decide +kernel
theorem dX5_newSet_30 : decode cX5_newSet 30 = .ok (.getfield 7, 3) := by decide +kernel
theorem dX5_newSet_33 : decode cX5_newSet 33 = .ok (.invokevirtual 88, 3) := by decide +kernel
theorem dX5_newSet_36 : decode cX5_newSet 36 = .ok (.aload_n 0, 1) := by decide +kernel
theorem dX5_newSet_37 : decode cX5_newSet 37 = .ok (.aload_n 0, 1) := by decide +kernel
theorem dX5_newSet_38 : decode cX5_newSet 38 = .ok (.getfield 7, 3) := by decide +kernel
theorem dX5_newSet_41 : decode cX5_newSet 41 = .ok (.iconst 0, 1) := by decide +kernel
theorem dX5_newSet_42 : decode cX5_newSet 42 = .ok (.iaload, 1) := by decide +kernel
theorem dX5_newSet_43 : decode cX5_newSet 43 = .ok (.iconst 0, 1) := by decide +kernel
theorem dX5_newSet_44 : decode cX5_newSet 44 = .ok (.iload_n 1, 1) := by decide +kernel
theorem dX5_newSet_45 : decode cX5_newSet 45 = .ok (.invokevirtual 47, 3) := by decide +kernel
theorem dX5_newSet_48 : decode cX5_newSet 48 = .ok (.aload_n 0, 1) := by decide +kernel
theorem dX5_newSet_49 : decode cX5_newSet 49 = .ok (.getfield 7, 3) := by decide +kernel
theorem dX5_newSet_52 : decode cX5_newSet 52 = .ok (.iconst 0, 1) := by decide +kernel
theorem dX5_newSet_53 : decode cX5_newSet 53 = .ok (.dup2, 1) := by decide +kernel
theorem dX5_newSet_54 : decode cX5_newSet 54 = .ok (.iaload, 1) := by decide +kernel
theorem dX5_newSet_55 : decode cX5_newSet 55 = .ok (.iconst 1, 1) := by decide +kernel
theorem dX5_newSet_56 : decode cX5_newSet 56 = .ok (.iadd, 1) := by decide +kernel
theorem dX5_newSet_57 : decode cX5_newSet 57 = .ok (.iastore, 1) := by decide +kernel
theorem dX5_newSet_58 : decode cX5_newSet 58 = .ok (.aload_n 0, 1) := by decide +kernel
theorem dX5_newSet_59 : decode cX5_newSet 59 = .ok (.getfield 7, 3) := by decide +kernel
theorem dX5_newSet_62 : decode cX5_newSet 62 = .ok (.iconst 0, 1) := by decide +kernel
theorem dX5_newSet_63 : decode cX5_newSet 63 = .ok (.iaload, 1) := by decide +kernel
theorem dX5_newSet_64 : decode cX5_newSet 64 = .ok (.iconst 1, 1) := by decide +kernel
theorem dX5_newSet_65 : decode cX5_newSet 65 = .ok (.isub, 1) := by decide +kernel
theorem dX5_newSet_66 : decode cX5_newSet 66 = .ok (.ireturn, 1) := by decide +kernel
set_option maxRecDepth 20000 in
theorem ggX5_pay_X5_isSet : GoodIn wsX5_pay wsX5_isSet := goodIn_r _ [6, 1, 7, 8, 5, 9, 27, 28, 29, 30, 31, 32, 33, 34, 35, 36, 37, 38, 39] (by decide +kernel) (by decide +kernel)
set_option maxRecDepth 20000 in
theorem gX5_pay_X5_isSet : GoodIn wsX5_pay (wsV RX5 92 RX5 yX5_isSet wsX5_isSet) := goodIn_app (goodIn_of _ (by decide +kernel)) ggX5_pay_X5_isSet
set_option maxRecDepth 20000 in
theorem ggX5_pay_X5_in : GoodIn wsX5_pay wsX5_in := goodIn_r _ [9] (by decide +kernel) (by decide +kernel)
set_option maxRecDepth 20000 in
theorem gX5_pay_X5_in : GoodIn wsX5_pay (va_wsS RX5 39 yX5_in wsX5_in) := goodIn_app (goodIn_of _ (by decide +kernel)) ggX5_pay_X5_in
set_option maxRecDepth 20000 in
theorem ggX5_pay_X5_of : GoodIn wsX5_pay wsX5_of := goodIn_r _ [13, 1, 27, 28, 29, 30, 31, 32, 33, 34, 35, 36, 37, 38, 39] (by decide +kernel) (by decide +kernel)
set_option maxRecDepth 20000 in
theorem gX5_pay_X5_of : GoodIn wsX5_pay (wsV RX5 43 RX5 yX5_of wsX5_of) := goodIn_app (goodIn_of _ (by decide +kernel)) ggX5_pay_X5_of
set_option maxRecDepth 20000 in
theorem ggX5_pay_X5_records : GoodIn wsX5_pay wsX5_records := goodIn_r _ [17, 18, 19, 20, 21, 5, 22, 27, 28, 29, 30, 31, 32, 33, 34, 35, 36, 37, 38, 39] (by decide +kernel) (by decide +kernel)
set_option maxRecDepth 20000 in
theorem gX5_pay_X5_records : GoodIn wsX5_pay (wsV RX5 88 RX5 yX5_records wsX5_records) := goodIn_app (goodIn_of _ (by decide +kernel)) ggX5_pay_X5_records
set_option maxRecDepth 20000 in
theorem ggX5_pay_X5_lays : GoodIn wsX5_pay wsX5_lays := goodIn_r _ [26, 1, 27, 28, 29, 30, 31, 32, 33, 34, 35, 36, 37, 38, 39] (by decide +kernel) (by decide +kernel)
set_option maxRecDepth 20000 in
theorem gX5_pay_X5_lays : GoodIn wsX5_pay (wsV RX5 47 RX5 yX5_lays wsX5_lays) := goodIn_app (goodIn_of _ (by decide +kernel)) ggX5_pay_X5_lays
theorem dX5_pay_0 : decode cX5_pay 0 = .ok (.aload_n 0, 1) := by decide +kernel
theorem dX5_pay_1 : decode cX5_pay 1 = .ok (.iload_n 1, 1) := by decide +kernel
theorem dX5_pay_2 : decode cX5_pay 2 = .ok (.invokevirtual 92, 3) := by decide +kernel
theorem dX5_pay_5 : decode cX5_pay 5 = .ok (.ifCond .ne 5, 3) := by decide +kernel
theorem dX5_pay_8 : decode cX5_pay 8 = .ok (.iconst (-1), 1) := by decide +kernel
theorem dX5_pay_9 : decode cX5_pay 9 = .ok (.ireturn, 1) := by decide +kernel
theorem dX5_pay_10 : decode cX5_pay 10 = .ok (.iload_n 2, 1) := by decide +kernel
theorem dX5_pay_11 : decode cX5_pay 11 = .ok (.iconst 1, 1) := by decide +kernel
theorem dX5_pay_12 : decode cX5_pay 12 = .ok (.sipush 9999, 3) := by decide +kernel
theorem dX5_pay_15 : decode cX5_pay 15 = .ok (.invokestatic 39, 3) := by decide +kernel
theorem dX5_pay_18 : decode cX5_pay 18 = .ok (.ifCond .ne 6, 3) := by decide +kernel
theorem dX5_pay_21 : decode cX5_pay 21 = .ok (.bipush (-2), 2) := by decide +kernel
theorem dX5_pay_23 : decode cX5_pay 23 = .ok (.ireturn, 1) := by decide +kernel
theorem dX5_pay_24 : decode cX5_pay 24 = .ok (.aload_n 0, 1) := by decide +kernel
theorem dX5_pay_25 : decode cX5_pay 25 = .ok (.iload_n 1, 1) := by decide +kernel
theorem dX5_pay_26 : decode cX5_pay 26 = .ok (.iconst 0, 1) := by decide +kernel
theorem dX5_pay_27 : decode cX5_pay 27 = .ok (.invokevirtual 43, 3) := by decide +kernel
theorem dX5_pay_30 : decode cX5_pay 30 = .ok (.iload_n 2, 1) := by decide +kernel
theorem dX5_pay_31 : decode cX5_pay 31 = .ok (.iadd, 1) := by decide +kernel
theorem dX5_pay_32 : decode cX5_pay 32 = .ok (.sipush 9999, 3) := by decide +kernel
theorem dX5_pay_35 : decode cX5_pay 35 = .ok (.if_icmp .le 6, 3) := by decide +kernel
theorem dX5_pay_38 : decode cX5_pay 38 = .ok (.bipush (-3), 2) := by decide +kernel
theorem dX5_pay_40 : decode cX5_pay 40 = .ok (.ireturn, 1) := by decide +kernel
theorem dX5_pay_41 : decode cX5_pay 41 = .ok (.aload_n 0, 1) := by decide +kernel
theorem dX5_pay_42 : decode cX5_pay 42 = .ok (.aload_n 0, 1) := by decide +kernel
theorem dX5_pay_43 : decode cX5_pay 43 = .ok (.getfield 7, 3) := by decide +kernel
theorem dX5_pay_46 : decode cX5_pay 46 = .ok (.invokevirtual 88, 3) := by decide +kernel
theorem dX5_pay_49 : decode cX5_pay 49 = .ok (.aload_n 0, 1) := by decide +kernel
theorem dX5_pay_50 : decode cX5_pay 50 = .ok (.iload_n 1, 1) := by decide +kernel
theorem dX5_pay_51 : decode cX5_pay 51 = .ok (.iconst 0, 1) := by decide +kernel
theorem dX5_pay_52 : decode cX5_pay 52 = .ok (.aload_n 0, 1) := by decide +kernel
theorem dX5_pay_53 : decode cX5_pay 53 = .ok (.iload_n 1, 1) := by decide +kernel
theorem dX5_pay_54 : decode cX5_pay 54 = .ok (.iconst 0, 1) := by decide +kernel
theorem dX5_pay_55 : decode cX5_pay 55 = .ok (.invokevirtual 43, 3) := by decide +kernel
theorem dX5_pay_58 : decode cX5_pay 58 = .ok (.iload_n 2, 1) := by decide +kernel
theorem dX5_pay_59 : decode cX5_pay 59 = .ok (.iadd, 1) := by decide +kernel
theorem dX5_pay_60 : decode cX5_pay 60 = .ok (.invokevirtual 47, 3) := by decide +kernel
theorem dX5_pay_63 : decode cX5_pay 63 = .ok (.aload_n 0, 1) := by decide +kernel
theorem dX5_pay_64 : decode cX5_pay 64 = .ok (.iload_n 1, 1) := by decide +kernel
theorem dX5_pay_65 : decode cX5_pay 65 = .ok (.iconst 0, 1) := by decide +kernel
theorem dX5_pay_66 : decode cX5_pay 66 = .ok (.invokevirtual 43, 3) := by decide +kernel
theorem dX5_pay_69 : decode cX5_pay 69 = .ok (.ireturn, 1) := by decide +kernel
set_option maxRecDepth 20000 in
theorem ggX5_boatsOf_X5_kindOf : GoodIn wsX5_boatsOf wsX5_kindOf := goodIn_r _ [5, 6, 7, 8, 4, 9, 10, 11, 12, 13, 14, 15, 16, 17, 18, 19, 20, 21, 22, 23] (by decide +kernel) (by decide +kernel)
set_option maxRecDepth 20000 in
theorem gX5_boatsOf_X5_kindOf : GoodIn wsX5_boatsOf (wsV RX5 62 RX5 yX5_kindOf wsX5_kindOf) := goodIn_app (goodIn_of _ (by decide +kernel)) ggX5_boatsOf_X5_kindOf
theorem dX5_boatsOf_0 : decode cX5_boatsOf 0 = .ok (.iconst 0, 1) := by decide +kernel
theorem dX5_boatsOf_1 : decode cX5_boatsOf 1 = .ok (.istore_n 2, 1) := by decide +kernel
theorem dX5_boatsOf_2 : decode cX5_boatsOf 2 = .ok (.iconst 0, 1) := by decide +kernel
theorem dX5_boatsOf_3 : decode cX5_boatsOf 3 = .ok (.istore_n 3, 1) := by decide +kernel
theorem dX5_boatsOf_4 : decode cX5_boatsOf 4 = .ok (.iload_n 3, 1) := by decide +kernel
theorem dX5_boatsOf_5 : decode cX5_boatsOf 5 = .ok (.bipush 8, 2) := by decide +kernel
theorem dX5_boatsOf_7 : decode cX5_boatsOf 7 = .ok (.if_icmp .ge 26, 3) := by decide +kernel
theorem dX5_boatsOf_10 : decode cX5_boatsOf 10 = .ok (.iload_n 2, 1) := by decide +kernel
theorem dX5_boatsOf_11 : decode cX5_boatsOf 11 = .ok (.aload_n 0, 1) := by decide +kernel
theorem dX5_boatsOf_12 : decode cX5_boatsOf 12 = .ok (.iload_n 1, 1) := by decide +kernel
theorem dX5_boatsOf_13 : decode cX5_boatsOf 13 = .ok (.iload_n 3, 1) := by decide +kernel
theorem dX5_boatsOf_14 : decode cX5_boatsOf 14 = .ok (.invokevirtual 62, 3) := by decide +kernel
theorem dX5_boatsOf_17 : decode cX5_boatsOf 17 = .ok (.ifCond .lt 7, 3) := by decide +kernel
theorem dX5_boatsOf_20 : decode cX5_boatsOf 20 = .ok (.iconst 1, 1) := by decide +kernel
theorem dX5_boatsOf_21 : decode cX5_boatsOf 21 = .ok (.goto 4, 3) := by decide +kernel
theorem dX5_boatsOf_24 : decode cX5_boatsOf 24 = .ok (.iconst 0, 1) := by decide +kernel
theorem dX5_boatsOf_25 : decode cX5_boatsOf 25 = .ok (.iadd, 1) := by decide +kernel
theorem dX5_boatsOf_26 : decode cX5_boatsOf 26 = .ok (.istore_n 2, 1) := by decide +kernel
theorem dX5_boatsOf_27 : decode cX5_boatsOf 27 = .ok (.iinc 3 1, 3) := by decide +kernel
theorem dX5_boatsOf_30 : decode cX5_boatsOf 30 = .ok (.goto (-26), 3) := by decide +kernel
theorem dX5_boatsOf_33 : decode cX5_boatsOf 33 = .ok (.iload_n 2, 1) := by decide +kernel
theorem dX5_boatsOf_34 : decode cX5_boatsOf 34 = .ok (.ireturn, 1) := by decide +kernel
set_option maxRecDepth 20000 in
theorem ggX5_sail_X5_isSet : GoodIn wsX5_sail wsX5_isSet := goodIn_r _ [6, 1, 7, 8, 5, 9, 35, 36, 37, 38, 39, 40, 41, 42, 43, 44, 45, 46, 47] (by decide +kernel) (by decide +kernel)
set_option maxRecDepth 20000 in
theorem gX5_sail_X5_isSet : GoodIn wsX5_sail (wsV RX5 92 RX5 yX5_isSet wsX5_isSet) := goodIn_app (goodIn_of _ (by decide +kernel)) ggX5_sail_X5_isSet
set_option maxRecDepth 20000 in
theorem ggX5_sail_X5_of : GoodIn wsX5_sail wsX5_of := goodIn_r _ [13, 1, 35, 36, 37, 38, 39, 40, 41, 42, 43, 44, 45, 46, 47] (by decide +kernel) (by decide +kernel)
set_option maxRecDepth 20000 in
theorem gX5_sail_X5_of : GoodIn wsX5_sail (wsV RX5 43 RX5 yX5_of wsX5_of) := goodIn_app (goodIn_of _ (by decide +kernel)) ggX5_sail_X5_of
set_option maxRecDepth 20000 in
theorem ggX5_sail_X5_records : GoodIn wsX5_sail wsX5_records := goodIn_r _ [17, 18, 19, 20, 21, 5, 22, 35, 36, 37, 38, 39, 40, 41, 42, 43, 44, 45, 46, 47] (by decide +kernel) (by decide +kernel)
set_option maxRecDepth 20000 in
theorem gX5_sail_X5_records : GoodIn wsX5_sail (wsV RX5 88 RX5 yX5_records wsX5_records) := goodIn_app (goodIn_of _ (by decide +kernel)) ggX5_sail_X5_records
set_option maxRecDepth 20000 in
theorem ggX5_sail_X5_lays : GoodIn wsX5_sail wsX5_lays := goodIn_r _ [26, 1, 35, 36, 37, 38, 39, 40, 41, 42, 43, 44, 45, 46, 47] (by decide +kernel) (by decide +kernel)
set_option maxRecDepth 20000 in
theorem gX5_sail_X5_lays : GoodIn wsX5_sail (wsV RX5 47 RX5 yX5_lays wsX5_lays) := goodIn_app (goodIn_of _ (by decide +kernel)) ggX5_sail_X5_lays
set_option maxRecDepth 20000 in
theorem ggX5_sail_X5_boatsOf : GoodIn wsX5_sail wsX5_boatsOf := goodIn_r _ [30, 31, 32, 33, 5, 34, 10, 11, 12, 13, 1, 35, 36, 37, 38, 39, 40, 41, 42, 43, 44, 45, 46, 47] (by decide +kernel) (by decide +kernel)
set_option maxRecDepth 20000 in
theorem gX5_sail_X5_boatsOf : GoodIn wsX5_sail (wsV RX5 96 RX5 yX5_boatsOf wsX5_boatsOf) := goodIn_app (goodIn_of _ (by decide +kernel)) ggX5_sail_X5_boatsOf
theorem dX5_sail_0 : decode cX5_sail 0 = .ok (.aload_n 0, 1) := by decide +kernel
theorem dX5_sail_1 : decode cX5_sail 1 = .ok (.iload_n 1, 1) := by decide +kernel
theorem dX5_sail_2 : decode cX5_sail 2 = .ok (.invokevirtual 92, 3) := by decide +kernel
theorem dX5_sail_5 : decode cX5_sail 5 = .ok (.ifCond .ne 5, 3) := by decide +kernel
theorem dX5_sail_8 : decode cX5_sail 8 = .ok (.iconst (-1), 1) := by decide +kernel
theorem dX5_sail_9 : decode cX5_sail 9 = .ok (.ireturn, 1) := by decide +kernel
theorem dX5_sail_10 : decode cX5_sail 10 = .ok (.aload_n 0, 1) := by decide +kernel
theorem dX5_sail_11 : decode cX5_sail 11 = .ok (.iload_n 1, 1) := by decide +kernel
theorem dX5_sail_12 : decode cX5_sail 12 = .ok (.iconst 1, 1) := by decide +kernel
theorem dX5_sail_13 : decode cX5_sail 13 = .ok (.invokevirtual 43, 3) := by decide +kernel
theorem dX5_sail_16 : decode cX5_sail 16 = .ok (.iconst 1, 1) := by decide +kernel
theorem dX5_sail_17 : decode cX5_sail 17 = .ok (.if_icmp .ne 6, 3) := by decide +kernel
theorem dX5_sail_20 : decode cX5_sail 20 = .ok (.bipush (-5), 2) := by decide +kernel
theorem dX5_sail_22 : decode cX5_sail 22 = .ok (.ireturn, 1) := by decide +kernel
theorem dX5_sail_23 : decode cX5_sail 23 = .ok (.aload_n 0, 1) := by decide +kernel
theorem dX5_sail_24 : decode cX5_sail 24 = .ok (.aload_n 0, 1) := by decide +kernel
theorem dX5_sail_25 : decode cX5_sail 25 = .ok (.getfield 7, 3) := by decide +kernel
theorem dX5_sail_28 : decode cX5_sail 28 = .ok (.invokevirtual 88, 3) := by decide +kernel
theorem dX5_sail_31 : decode cX5_sail 31 = .ok (.aload_n 0, 1) := by decide +kernel
theorem dX5_sail_32 : decode cX5_sail 32 = .ok (.iload_n 1, 1) := by decide +kernel
theorem dX5_sail_33 : decode cX5_sail 33 = .ok (.iconst 1, 1) := by decide +kernel
theorem dX5_sail_34 : decode cX5_sail 34 = .ok (.iconst 1, 1) := by decide +kernel
theorem dX5_sail_35 : decode cX5_sail 35 = .ok (.invokevirtual 47, 3) := by decide +kernel
theorem dX5_sail_38 : decode cX5_sail 38 = .ok (.aload_n 0, 1) := by decide +kernel
theorem dX5_sail_39 : decode cX5_sail 39 = .ok (.iload_n 1, 1) := by decide +kernel
theorem dX5_sail_40 : decode cX5_sail 40 = .ok (.invokevirtual 96, 3) := by decide +kernel
theorem dX5_sail_43 : decode cX5_sail 43 = .ok (.ireturn, 1) := by decide +kernel
set_option maxRecDepth 20000 in
theorem ggX5_nextToDock_X5_kindOf : GoodIn wsX5_nextToDock wsX5_kindOf := goodIn_r _ [6, 7, 8, 9, 5, 10, 11, 45, 46, 47, 48, 49, 50, 51, 52, 53, 54, 55, 56, 57] (by decide +kernel) (by decide +kernel)
set_option maxRecDepth 20000 in
theorem gX5_nextToDock_X5_kindOf : GoodIn wsX5_nextToDock (wsV RX5 62 RX5 yX5_kindOf wsX5_kindOf) := goodIn_app (goodIn_of _ (by decide +kernel)) ggX5_nextToDock_X5_kindOf
set_option maxRecDepth 20000 in
theorem ggX5_nextToDock_X5_tollOf : GoodIn wsX5_nextToDock wsX5_tollOf := goodIn_r _ [15, 16, 17, 18, 5, 19, 20, 21, 22, 23, 24, 25, 26, 27, 7, 8, 9, 10, 11, 28, 29, 30, 31, 32, 33, 34, 35, 36, 37, 38, 39, 40, 2, 3, 4, 6, 45, 46, 47, 48, 49, 50, 51, 52, 53, 54, 55, 56, 57] (by decide +kernel) (by decide +kernel)
set_option maxRecDepth 20000 in
theorem gX5_nextToDock_X5_tollOf : GoodIn wsX5_nextToDock (wsV RX5 77 RX5 yX5_tollOf wsX5_tollOf) := goodIn_app (goodIn_of _ (by decide +kernel)) ggX5_nextToDock_X5_tollOf
set_option maxRecDepth 20000 in
theorem ggX5_nextToDock_X5_unitsOf : GoodIn wsX5_nextToDock wsX5_unitsOf := goodIn_r _ [44, 2, 3, 4, 5, 6, 7, 8, 9, 10, 11, 20, 21, 22, 23, 24, 25, 26, 27, 28, 29, 30, 31, 38, 39, 40, 45, 46, 47, 48, 49, 50, 51, 52, 53, 54, 55, 56, 57] (by decide +kernel) (by decide +kernel)
set_option maxRecDepth 20000 in
theorem gX5_nextToDock_X5_unitsOf : GoodIn wsX5_nextToDock (wsV RX5 103 RX5 yX5_unitsOf wsX5_unitsOf) := goodIn_app (goodIn_of _ (by decide +kernel)) ggX5_nextToDock_X5_unitsOf
theorem dX5_nextToDock_0 : decode cX5_nextToDock 0 = .ok (.bipush (-5), 2) := by decide +kernel
theorem dX5_nextToDock_2 : decode cX5_nextToDock 2 = .ok (.istore_n 2, 1) := by decide +kernel
theorem dX5_nextToDock_3 : decode cX5_nextToDock 3 = .ok (.iconst 0, 1) := by decide +kernel
theorem dX5_nextToDock_4 : decode cX5_nextToDock 4 = .ok (.istore_n 3, 1) := by decide +kernel
theorem dX5_nextToDock_5 : decode cX5_nextToDock 5 = .ok (.iconst 0, 1) := by decide +kernel
theorem dX5_nextToDock_6 : decode cX5_nextToDock 6 = .ok (.istore 4, 2) := by decide +kernel
theorem dX5_nextToDock_8 : decode cX5_nextToDock 8 = .ok (.iload 4, 2) := by decide +kernel
theorem dX5_nextToDock_10 : decode cX5_nextToDock 10 = .ok (.bipush 8, 2) := by decide +kernel
theorem dX5_nextToDock_12 : decode cX5_nextToDock 12 = .ok (.if_icmp .ge 101, 3) := by decide +kernel
theorem dX5_nextToDock_15 : decode cX5_nextToDock 15 = .ok (.aload_n 0, 1) := by decide +kernel
theorem dX5_nextToDock_16 : decode cX5_nextToDock 16 = .ok (.iload_n 1, 1) := by decide +kernel
theorem dX5_nextToDock_17 : decode cX5_nextToDock 17 = .ok (.iload 4, 2) := by decide +kernel
theorem dX5_nextToDock_19 : decode cX5_nextToDock 19 = .ok (.invokevirtual 62, 3) := by decide +kernel
theorem dX5_nextToDock_22 : decode cX5_nextToDock 22 = .ok (.ifCond .lt 85, 3) := by decide +kernel
theorem dX5_nextToDock_25 : decode cX5_nextToDock 25 = .ok (.aload_n 0, 1) := by decide +kernel
theorem dX5_nextToDock_26 : decode cX5_nextToDock 26 = .ok (.getfield 100, 3) := by decide +kernel
theorem dX5_nextToDock_29 : decode cX5_nextToDock 29 = .ok (.iload 4, 2) := by decide +kernel
theorem dX5_nextToDock_31 : decode cX5_nextToDock 31 = .ok (.ishr, 1) := by decide +kernel
theorem dX5_nextToDock_32 : decode cX5_nextToDock 32 = .ok (.iconst 1, 1) := by decide +kernel
theorem dX5_nextToDock_33 : decode cX5_nextToDock 33 = .ok (.iand, 1) := by decide +kernel
theorem dX5_nextToDock_34 : decode cX5_nextToDock 34 = .ok (.ifCond .ne 73, 3) := by decide +kernel
theorem dX5_nextToDock_37 : decode cX5_nextToDock 37 = .ok (.aload_n 0, 1) := by decide +kernel
theorem dX5_nextToDock_38 : decode cX5_nextToDock 38 = .ok (.iload_n 1, 1) := by decide +kernel
theorem dX5_nextToDock_39 : decode cX5_nextToDock 39 = .ok (.iload 4, 2) := by decide +kernel
theorem dX5_nextToDock_41 : decode cX5_nextToDock 41 = .ok (.invokevirtual 77, 3) := by decide +kernel
theorem dX5_nextToDock_44 : decode cX5_nextToDock 44 = .ok (.ifCond .le 63, 3) := by decide +kernel
theorem dX5_nextToDock_47 : decode cX5_nextToDock 47 = .ok (.aload_n 0, 1) := by decide +kernel
theorem dX5_nextToDock_48 : decode cX5_nextToDock 48 = .ok (.iload_n 1, 1) := by decide +kernel
theorem dX5_nextToDock_49 : decode cX5_nextToDock 49 = .ok (.iload 4, 2) := by decide +kernel
theorem dX5_nextToDock_51 : decode cX5_nextToDock 51 = .ok (.invokevirtual 103, 3) := by decide +kernel
theorem dX5_nextToDock_54 : decode cX5_nextToDock 54 = .ok (.aload_n 0, 1) := by decide +kernel
theorem dX5_nextToDock_55 : decode cX5_nextToDock 55 = .ok (.iload_n 1, 1) := by decide +kernel
theorem dX5_nextToDock_56 : decode cX5_nextToDock 56 = .ok (.iload 4, 2) := by decide +kernel
theorem dX5_nextToDock_58 : decode cX5_nextToDock 58 = .ok (.invokevirtual 77, 3) := by decide +kernel
theorem dX5_nextToDock_61 : decode cX5_nextToDock 61 = .ok (.isub, 1) := by decide +kernel
theorem dX5_nextToDock_62 : decode cX5_nextToDock 62 = .ok (.istore 5, 2) := by decide +kernel
theorem dX5_nextToDock_64 : decode cX5_nextToDock 64 = .ok (.iload_n 2, 1) := by decide +kernel
theorem dX5_nextToDock_65 : decode cX5_nextToDock 65 = .ok (.bipush (-5), 2) := by decide +kernel
theorem dX5_nextToDock_67 : decode cX5_nextToDock 67 = .ok (.if_icmp .eq 9, 3) := by decide +kernel
theorem dX5_nextToDock_70 : decode cX5_nextToDock 70 = .ok (.iload 5, 2) := by decide +kernel
theorem dX5_nextToDock_72 : decode cX5_nextToDock 72 = .ok (.iload_n 3, 1) := by decide +kernel
theorem dX5_nextToDock_73 : decode cX5_nextToDock 73 = .ok (.if_icmp .le 7, 3) := by decide +kernel
theorem dX5_nextToDock_76 : decode cX5_nextToDock 76 = .ok (.iconst 1, 1) := by decide +kernel
theorem dX5_nextToDock_77 : decode cX5_nextToDock 77 = .ok (.goto 4, 3) := by decide +kernel
theorem dX5_nextToDock_80 : decode cX5_nextToDock 80 = .ok (.iconst 0, 1) := by decide +kernel
theorem dX5_nextToDock_81 : decode cX5_nextToDock 81 = .ok (.istore 6, 2) := by decide +kernel
theorem dX5_nextToDock_83 : decode cX5_nextToDock 83 = .ok (.iload 6, 2) := by decide +kernel
theorem dX5_nextToDock_85 : decode cX5_nextToDock 85 = .ok (.ifCond .eq 8, 3) := by decide +kernel
theorem dX5_nextToDock_88 : decode cX5_nextToDock 88 = .ok (.iload 4, 2) := by decide +kernel
theorem dX5_nextToDock_90 : decode cX5_nextToDock 90 = .ok (.goto 4, 3) := by decide +kernel
theorem dX5_nextToDock_93 : decode cX5_nextToDock 93 = .ok (.iload_n 2, 1) := by decide +kernel
theorem dX5_nextToDock_94 : decode cX5_nextToDock 94 = .ok (.istore_n 2, 1) := by decide +kernel
theorem dX5_nextToDock_95 : decode cX5_nextToDock 95 = .ok (.iload 6, 2) := by decide +kernel
theorem dX5_nextToDock_97 : decode cX5_nextToDock 97 = .ok (.ifCond .eq 8, 3) := by decide +kernel
theorem dX5_nextToDock_100 : decode cX5_nextToDock 100 = .ok (.iload 5, 2) := by decide +kernel
theorem dX5_nextToDock_102 : decode cX5_nextToDock 102 = .ok (.goto 4, 3) := by decide +kernel
theorem dX5_nextToDock_105 : decode cX5_nextToDock 105 = .ok (.iload_n 3, 1) := by decide +kernel
theorem dX5_nextToDock_106 : decode cX5_nextToDock 106 = .ok (.istore_n 3, 1) := by decide +kernel
theorem dX5_nextToDock_107 : decode cX5_nextToDock 107 = .ok (.iinc 4 1, 3) := by decide +kernel
theorem dX5_nextToDock_110 : decode cX5_nextToDock 110 = .ok (.goto (-102), 3) := by decide +kernel
theorem dX5_nextToDock_113 : decode cX5_nextToDock 113 = .ok (.iload_n 2, 1) := by decide +kernel
theorem dX5_nextToDock_114 : decode cX5_nextToDock 114 = .ok (.ireturn, 1) := by decide +kernel
set_option maxRecDepth 20000 in
theorem ggX5_docks_X5_of : GoodIn wsX5_docks wsX5_of := goodIn_r _ [6, 7, 57, 58, 59, 60, 61, 62, 63, 64, 65, 66, 67, 68, 69] (by decide +kernel) (by decide +kernel)
set_option maxRecDepth 20000 in
theorem gX5_docks_X5_of : GoodIn wsX5_docks (wsV RX5 43 RX5 yX5_of wsX5_of) := goodIn_app (goodIn_of _ (by decide +kernel)) ggX5_docks_X5_of
set_option maxRecDepth 20000 in
theorem ggX5_docks_X5_lays : GoodIn wsX5_docks wsX5_lays := goodIn_r _ [11, 7, 57, 58, 59, 60, 61, 62, 63, 64, 65, 66, 67, 68, 69] (by decide +kernel) (by decide +kernel)
set_option maxRecDepth 20000 in
theorem gX5_docks_X5_lays : GoodIn wsX5_docks (wsV RX5 47 RX5 yX5_lays wsX5_lays) := goodIn_app (goodIn_of _ (by decide +kernel)) ggX5_docks_X5_lays
set_option maxRecDepth 20000 in
theorem ggX5_docks_X5_nextToDock : GoodIn wsX5_docks wsX5_nextToDock := goodIn_r _ [15, 1, 16, 17, 18, 5, 19, 2, 3, 4, 6, 7, 20, 21, 22, 23, 24, 25, 26, 27, 28, 29, 30, 31, 32, 33, 34, 35, 36, 37, 38, 39, 40, 41, 42, 43, 44, 45, 46, 47, 48, 49, 50, 51, 52, 57, 58, 59, 60, 61, 62, 63, 64, 65, 66, 67, 68, 69] (by decide +kernel) (by decide +kernel)
set_option maxRecDepth 20000 in
theorem gX5_docks_X5_nextToDock : GoodIn wsX5_docks (wsV RX5 106 RX5 yX5_nextToDock wsX5_nextToDock) := goodIn_app (goodIn_of _ (by decide +kernel)) ggX5_docks_X5_nextToDock
set_option maxRecDepth 20000 in
theorem ggX5_docks_X5_tollOf : GoodIn wsX5_docks wsX5_tollOf := goodIn_r _ [23, 24, 25, 26, 5, 27, 28, 29, 30, 31, 32, 33, 34, 35, 2, 3, 4, 6, 7, 36, 37, 38, 39, 40, 41, 42, 43, 44, 45, 46, 47, 48, 16, 17, 18, 19, 57, 58, 59, 60, 61, 62, 63, 64, 65, 66, 67, 68, 69] (by decide +kernel) (by decide +kernel)
set_option maxRecDepth 20000 in
theorem gX5_docks_X5_tollOf : GoodIn wsX5_docks (wsV RX5 77 RX5 yX5_tollOf wsX5_tollOf) := goodIn_app (goodIn_of _ (by decide +kernel)) ggX5_docks_X5_tollOf
set_option maxRecDepth 20000 in
theorem ggX5_docks_X5_becomes : GoodIn wsX5_docks wsX5_becomes := goodIn_r _ [56, 20, 21, 22, 5, 23, 24, 25, 26, 27, 28, 29, 30, 31, 32, 33, 34, 35, 2, 3, 4, 6, 7, 36, 37, 38, 39, 40, 41, 42, 43, 44, 45, 46, 47, 48, 16, 17, 18, 19, 8, 9, 10, 11, 57, 58, 59, 60, 61, 62, 63, 64, 65, 66, 67, 68, 69] (by decide +kernel) (by decide +kernel)
set_option maxRecDepth 20000 in
theorem gX5_docks_X5_becomes : GoodIn wsX5_docks (wsV RX5 84 RX5 yX5_becomes wsX5_becomes) := goodIn_app (goodIn_of _ (by decide +kernel)) ggX5_docks_X5_becomes
theorem dX5_docks_0 : decode cX5_docks 0 = .ok (.aload_n 0, 1) := by decide +kernel
theorem dX5_docks_1 : decode cX5_docks 1 = .ok (.iload_n 1, 1) := by decide +kernel
theorem dX5_docks_2 : decode cX5_docks 2 = .ok (.iconst 2, 1) := by decide +kernel
theorem dX5_docks_3 : decode cX5_docks 3 = .ok (.invokevirtual 43, 3) := by decide +kernel
theorem dX5_docks_6 : decode cX5_docks 6 = .ok (.istore_n 2, 1) := by decide +kernel
theorem dX5_docks_7 : decode cX5_docks 7 = .ok (.aload_n 0, 1) := by decide +kernel
theorem dX5_docks_8 : decode cX5_docks 8 = .ok (.iload_n 1, 1) := by decide +kernel
theorem dX5_docks_9 : decode cX5_docks 9 = .ok (.iconst 1, 1) := by decide +kernel
theorem dX5_docks_10 : decode cX5_docks 10 = .ok (.iconst 0, 1) := by decide +kernel
theorem dX5_docks_11 : decode cX5_docks 11 = .ok (.invokevirtual 47, 3) := by decide +kernel
theorem dX5_docks_14 : decode cX5_docks 14 = .ok (.aload_n 0, 1) := by decide +kernel
theorem dX5_docks_15 : decode cX5_docks 15 = .ok (.iconst 0, 1) := by decide +kernel
theorem dX5_docks_16 : decode cX5_docks 16 = .ok (.putfield 100, 3) := by decide +kernel
theorem dX5_docks_19 : decode cX5_docks 19 = .ok (.aload_n 0, 1) := by decide +kernel
theorem dX5_docks_20 : decode cX5_docks 20 = .ok (.iload_n 1, 1) := by decide +kernel
theorem dX5_docks_21 : decode cX5_docks 21 = .ok (.invokevirtual 106, 3) := by decide +kernel
theorem dX5_docks_24 : decode cX5_docks 24 = .ok (.istore_n 3, 1) := by decide +kernel
theorem dX5_docks_25 : decode cX5_docks 25 = .ok (.iload_n 3, 1) := by decide +kernel
theorem dX5_docks_26 : decode cX5_docks 26 = .ok (.bipush (-5), 2) := by decide +kernel
theorem dX5_docks_28 : decode cX5_docks 28 = .ok (.if_icmp .eq 45, 3) := by decide +kernel
theorem dX5_docks_31 : decode cX5_docks 31 = .ok (.aload_n 0, 1) := by decide +kernel
theorem dX5_docks_32 : decode cX5_docks 32 = .ok (.dup, 1) := by decide +kernel
theorem dX5_docks_33 : decode cX5_docks 33 = .ok (.getfield 100, 3) := by decide +kernel
theorem dX5_docks_36 : decode cX5_docks 36 = .ok (.iconst 1, 1) := by decide +kernel
theorem dX5_docks_37 : decode cX5_docks 37 = .ok (.iload_n 3, 1) := by decide +kernel
theorem dX5_docks_38 : decode cX5_docks 38 = .ok (.ishl, 1) := by decide +kernel
theorem dX5_docks_39 : decode cX5_docks 39 = .ok (.ior, 1) := by decide +kernel
theorem dX5_docks_40 : decode cX5_docks 40 = .ok (.putfield 100, 3) := by decide +kernel
theorem dX5_docks_43 : decode cX5_docks 43 = .ok (.aload_n 0, 1) := by decide +kernel
theorem dX5_docks_44 : decode cX5_docks 44 = .ok (.iload_n 1, 1) := by decide +kernel
theorem dX5_docks_45 : decode cX5_docks 45 = .ok (.iconst 0, 1) := by decide +kernel
theorem dX5_docks_46 : decode cX5_docks 46 = .ok (.invokevirtual 43, 3) := by decide +kernel
theorem dX5_docks_49 : decode cX5_docks 49 = .ok (.aload_n 0, 1) := by decide +kernel
theorem dX5_docks_50 : decode cX5_docks 50 = .ok (.iload_n 1, 1) := by decide +kernel
theorem dX5_docks_51 : decode cX5_docks 51 = .ok (.iload_n 3, 1) := by decide +kernel
theorem dX5_docks_52 : decode cX5_docks 52 = .ok (.invokevirtual 77, 3) := by decide +kernel
theorem dX5_docks_55 : decode cX5_docks 55 = .ok (.if_icmp .lt 9, 3) := by decide +kernel
theorem dX5_docks_58 : decode cX5_docks 58 = .ok (.aload_n 0, 1) := by decide +kernel
theorem dX5_docks_59 : decode cX5_docks 59 = .ok (.iload_n 1, 1) := by decide +kernel
theorem dX5_docks_60 : decode cX5_docks 60 = .ok (.iload_n 3, 1) := by decide +kernel
theorem dX5_docks_61 : decode cX5_docks 61 = .ok (.invokevirtual 84, 3) := by decide +kernel
theorem dX5_docks_64 : decode cX5_docks 64 = .ok (.aload_n 0, 1) := by decide +kernel
theorem dX5_docks_65 : decode cX5_docks 65 = .ok (.iload_n 1, 1) := by decide +kernel
theorem dX5_docks_66 : decode cX5_docks 66 = .ok (.invokevirtual 106, 3) := by decide +kernel
theorem dX5_docks_69 : decode cX5_docks 69 = .ok (.istore_n 3, 1) := by decide +kernel
theorem dX5_docks_70 : decode cX5_docks 70 = .ok (.goto (-45), 3) := by decide +kernel
theorem dX5_docks_73 : decode cX5_docks 73 = .ok (.aload_n 0, 1) := by decide +kernel
theorem dX5_docks_74 : decode cX5_docks 74 = .ok (.iload_n 1, 1) := by decide +kernel
theorem dX5_docks_75 : decode cX5_docks 75 = .ok (.iconst 2, 1) := by decide +kernel
theorem dX5_docks_76 : decode cX5_docks 76 = .ok (.invokevirtual 43, 3) := by decide +kernel
theorem dX5_docks_79 : decode cX5_docks 79 = .ok (.iload_n 2, 1) := by decide +kernel
theorem dX5_docks_80 : decode cX5_docks 80 = .ok (.isub, 1) := by decide +kernel
theorem dX5_docks_81 : decode cX5_docks 81 = .ok (.ireturn, 1) := by decide +kernel
set_option maxRecDepth 20000 in
theorem ggX5_dock_X5_isSet : GoodIn wsX5_dock wsX5_isSet := goodIn_r _ [6, 1, 7, 8, 5, 9, 77, 78, 79, 80, 81, 82, 83, 84, 85, 86, 87, 88, 89] (by decide +kernel) (by decide +kernel)
set_option maxRecDepth 20000 in
theorem gX5_dock_X5_isSet : GoodIn wsX5_dock (wsV RX5 92 RX5 yX5_isSet wsX5_isSet) := goodIn_app (goodIn_of _ (by decide +kernel)) ggX5_dock_X5_isSet
set_option maxRecDepth 20000 in
theorem ggX5_dock_X5_records : GoodIn wsX5_dock wsX5_records := goodIn_r _ [13, 14, 15, 16, 17, 5, 18, 77, 78, 79, 80, 81, 82, 83, 84, 85, 86, 87, 88, 89] (by decide +kernel) (by decide +kernel)
set_option maxRecDepth 20000 in
theorem gX5_dock_X5_records : GoodIn wsX5_dock (wsV RX5 88 RX5 yX5_records wsX5_records) := goodIn_app (goodIn_of _ (by decide +kernel)) ggX5_dock_X5_records
set_option maxRecDepth 20000 in
theorem ggX5_dock_X5_docks : GoodIn wsX5_dock wsX5_docks := goodIn_r _ [22, 23, 24, 25, 26, 5, 27, 1, 28, 29, 30, 31, 32, 33, 34, 35, 36, 37, 38, 39, 40, 41, 42, 43, 44, 45, 46, 47, 48, 49, 50, 51, 52, 53, 54, 55, 56, 57, 58, 59, 60, 61, 62, 63, 64, 65, 66, 67, 68, 69, 70, 71, 72, 73, 74, 75, 76, 77, 78, 79, 80, 81, 82, 83, 84, 85, 86, 87, 88, 89] (by decide +kernel) (by decide +kernel)
set_option maxRecDepth 20000 in
theorem gX5_dock_X5_docks : GoodIn wsX5_dock (wsV RX5 109 RX5 yX5_docks wsX5_docks) := goodIn_app (goodIn_of _ (by decide +kernel)) ggX5_dock_X5_docks
theorem dX5_dock_0 : decode cX5_dock 0 = .ok (.aload_n 0, 1) := by decide +kernel
theorem dX5_dock_1 : decode cX5_dock 1 = .ok (.iload_n 1, 1) := by decide +kernel
theorem dX5_dock_2 : decode cX5_dock 2 = .ok (.invokevirtual 92, 3) := by decide +kernel
theorem dX5_dock_5 : decode cX5_dock 5 = .ok (.ifCond .ne 5, 3) := by decide +kernel
theorem dX5_dock_8 : decode cX5_dock 8 = .ok (.iconst (-1), 1) := by decide +kernel
theorem dX5_dock_9 : decode cX5_dock 9 = .ok (.ireturn, 1) := by decide +kernel
theorem dX5_dock_10 : decode cX5_dock 10 = .ok (.aload_n 0, 1) := by decide +kernel
theorem dX5_dock_11 : decode cX5_dock 11 = .ok (.aload_n 0, 1) := by decide +kernel
theorem dX5_dock_12 : decode cX5_dock 12 = .ok (.getfield 7, 3) := by decide +kernel
theorem dX5_dock_15 : decode cX5_dock 15 = .ok (.invokevirtual 88, 3) := by decide +kernel
theorem dX5_dock_18 : decode cX5_dock 18 = .ok (.aload_n 0, 1) := by decide +kernel
theorem dX5_dock_19 : decode cX5_dock 19 = .ok (.iload_n 1, 1) := by decide +kernel
theorem dX5_dock_20 : decode cX5_dock 20 = .ok (.invokevirtual 109, 3) := by decide +kernel
theorem dX5_dock_23 : decode cX5_dock 23 = .ok (.ireturn, 1) := by decide +kernel
set_option maxRecDepth 20000 in
theorem ggX5_add_X5_isSet : GoodIn wsX5_add wsX5_isSet := goodIn_r _ [7, 1, 8, 9, 6, 10, 76, 77, 78, 79, 80, 81, 82, 83, 84, 85, 86, 87, 88] (by decide +kernel) (by decide +kernel)
set_option maxRecDepth 20000 in
theorem gX5_add_X5_isSet : GoodIn wsX5_add (wsV RX5 92 RX5 yX5_isSet wsX5_isSet) := goodIn_app (goodIn_of _ (by decide +kernel)) ggX5_add_X5_isSet
set_option maxRecDepth 20000 in
theorem ggX5_add_X5_isNumber : GoodIn wsX5_add wsX5_isNumber := goodIn_r _ [13, 8, 9, 6, 10] (by decide +kernel) (by decide +kernel)
set_option maxRecDepth 20000 in
theorem gX5_add_X5_isNumber : GoodIn wsX5_add (va_wsS RX5 112 yX5_isNumber wsX5_isNumber) := goodIn_app (goodIn_of _ (by decide +kernel)) ggX5_add_X5_isNumber
set_option maxRecDepth 20000 in
theorem ggX5_add_X5_isIn : GoodIn wsX5_add wsX5_isIn := goodIn_r _ [17, 18, 19, 20, 6, 21, 1, 76, 77, 78, 79, 80, 81, 82, 83, 84, 85, 86, 87, 88] (by decide +kernel) (by decide +kernel)
set_option maxRecDepth 20000 in
theorem gX5_add_X5_isIn : GoodIn wsX5_add (wsV RX5 51 RX5 yX5_isIn wsX5_isIn) := goodIn_app (goodIn_of _ (by decide +kernel)) ggX5_add_X5_isIn
set_option maxRecDepth 20000 in
theorem ggX5_add_X5_copies : GoodIn wsX5_add wsX5_copies := goodIn_r _ [24] (by decide +kernel) (by decide +kernel)
set_option maxRecDepth 20000 in
theorem gX5_add_X5_copies : GoodIn wsX5_add (va_wsS RX5 35 yX5_copies wsX5_copies) := goodIn_app (goodIn_of _ (by decide +kernel)) ggX5_add_X5_copies
set_option maxRecDepth 20000 in
theorem ggX5_add_X5_goes : GoodIn wsX5_add wsX5_goes := goodIn_r _ [28, 29, 30, 31, 6, 32, 18, 19, 20, 21, 1, 33, 34, 35, 36, 37, 38, 39, 40, 41, 42, 43, 44, 14, 15, 16, 17, 45, 46, 47, 48, 49, 50, 51, 52, 53, 54, 55, 56, 57, 58, 59, 60, 61, 62, 63, 64, 65, 66, 67, 68, 69, 76, 77, 78, 79, 80, 81, 82, 83, 84, 85, 86, 87, 88] (by decide +kernel) (by decide +kernel)
set_option maxRecDepth 20000 in
theorem gX5_add_X5_goes : GoodIn wsX5_add (wsV RX5 115 RX5 yX5_goes wsX5_goes) := goodIn_app (goodIn_of _ (by decide +kernel)) ggX5_add_X5_goes
set_option maxRecDepth 20000 in
theorem ggX5_add_X5_records : GoodIn wsX5_add wsX5_records := goodIn_r _ [73, 74, 75, 22, 23, 6, 24, 76, 77, 78, 79, 80, 81, 82, 83, 84, 85, 86, 87, 88] (by decide +kernel) (by decide +kernel)
set_option maxRecDepth 20000 in
theorem gX5_add_X5_records : GoodIn wsX5_add (wsV RX5 88 RX5 yX5_records wsX5_records) := goodIn_app (goodIn_of _ (by decide +kernel)) ggX5_add_X5_records
set_option maxRecDepth 20000 in
theorem ggX5_add_X5_kindOf : GoodIn wsX5_add wsX5_kindOf := goodIn_r _ [40, 18, 19, 20, 6, 21, 1, 76, 77, 78, 79, 80, 81, 82, 83, 84, 85, 86, 87, 88] (by decide +kernel) (by decide +kernel)
set_option maxRecDepth 20000 in
theorem gX5_add_X5_kindOf : GoodIn wsX5_add (wsV RX5 62 RX5 yX5_kindOf wsX5_kindOf) := goodIn_app (goodIn_of _ (by decide +kernel)) ggX5_add_X5_kindOf
theorem dX5_add_0 : decode cX5_add 0 = .ok (.aload_n 0, 1) := by decide +kernel
theorem dX5_add_1 : decode cX5_add 1 = .ok (.iload_n 1, 1) := by decide +kernel
theorem dX5_add_2 : decode cX5_add 2 = .ok (.invokevirtual 92, 3) := by decide +kernel
theorem dX5_add_5 : decode cX5_add 5 = .ok (.ifCond .ne 5, 3) := by decide +kernel
theorem dX5_add_8 : decode cX5_add 8 = .ok (.iconst (-1), 1) := by decide +kernel
theorem dX5_add_9 : decode cX5_add 9 = .ok (.ireturn, 1) := by decide +kernel
theorem dX5_add_10 : decode cX5_add 10 = .ok (.iload_n 2, 1) := by decide +kernel
theorem dX5_add_11 : decode cX5_add 11 = .ok (.invokestatic 112, 3) := by decide +kernel
theorem dX5_add_14 : decode cX5_add 14 = .ok (.ifCond .ne 6, 3) := by decide +kernel
theorem dX5_add_17 : decode cX5_add 17 = .ok (.bipush (-2), 2) := by decide +kernel
theorem dX5_add_19 : decode cX5_add 19 = .ok (.ireturn, 1) := by decide +kernel
theorem dX5_add_20 : decode cX5_add 20 = .ok (.aload_n 0, 1) := by decide +kernel
theorem dX5_add_21 : decode cX5_add 21 = .ok (.iload_n 1, 1) := by decide +kernel
theorem dX5_add_22 : decode cX5_add 22 = .ok (.iload_n 2, 1) := by decide +kernel
theorem dX5_add_23 : decode cX5_add 23 = .ok (.invokevirtual 51, 3) := by decide +kernel
theorem dX5_add_26 : decode cX5_add 26 = .ok (.ifCond .eq 6, 3) := by decide +kernel
theorem dX5_add_29 : decode cX5_add 29 = .ok (.bipush (-5), 2) := by decide +kernel
theorem dX5_add_31 : decode cX5_add 31 = .ok (.ireturn, 1) := by decide +kernel
theorem dX5_add_32 : decode cX5_add 32 = .ok (.aload_n 0, 1) := by decide +kernel
theorem dX5_add_33 : decode cX5_add 33 = .ok (.getfield 7, 3) := by decide +kernel
theorem dX5_add_36 : decode cX5_add 36 = .ok (.iconst 0, 1) := by decide +kernel
theorem dX5_add_37 : decode cX5_add 37 = .ok (.aload_n 0, 1) := by decide +kernel
theorem dX5_add_38 : decode cX5_add 38 = .ok (.getfield 19, 3) := by decide +kernel
theorem dX5_add_41 : decode cX5_add 41 = .ok (.iconst 0, 1) := by decide +kernel
theorem dX5_add_42 : decode cX5_add 42 = .ok (.invokestatic 35, 3) := by decide +kernel
theorem dX5_add_45 : decode cX5_add 45 = .ok (.aload_n 0, 1) := by decide +kernel
theorem dX5_add_46 : decode cX5_add 46 = .ok (.iload_n 1, 1) := by decide +kernel
theorem dX5_add_47 : decode cX5_add 47 = .ok (.iload_n 2, 1) := by decide +kernel
theorem dX5_add_48 : decode cX5_add 48 = .ok (.iconst 1, 1) := by decide +kernel
theorem dX5_add_49 : decode cX5_add 49 = .ok (.invokevirtual 115, 3) := by decide +kernel
theorem dX5_add_52 : decode cX5_add 52 = .ok (.ifCond .ne 19, 3) := by decide +kernel
theorem dX5_add_55 : decode cX5_add 55 = .ok (.aload_n 0, 1) := by decide +kernel
theorem dX5_add_56 : decode cX5_add 56 = .ok (.getfield 19, 3) := by decide +kernel
theorem dX5_add_59 : decode cX5_add 59 = .ok (.iconst 0, 1) := by decide +kernel
theorem dX5_add_60 : decode cX5_add 60 = .ok (.aload_n 0, 1) := by decide +kernel
theorem dX5_add_61 : decode cX5_add 61 = .ok (.getfield 7, 3) := by decide +kernel
theorem dX5_add_64 : decode cX5_add 64 = .ok (.iconst 0, 1) := by decide +kernel
theorem dX5_add_65 : decode cX5_add 65 = .ok (.invokestatic 35, 3) := by decide +kernel
theorem dX5_add_68 : decode cX5_add 68 = .ok (.bipush (-3), 2) := by decide +kernel
theorem dX5_add_70 : decode cX5_add 70 = .ok (.ireturn, 1) := by decide +kernel
theorem dX5_add_71 : decode cX5_add 71 = .ok (.aload_n 0, 1) := by decide +kernel
theorem dX5_add_72 : decode cX5_add 72 = .ok (.aload_n 0, 1) := by decide +kernel
theorem dX5_add_73 : decode cX5_add 73 = .ok (.getfield 19, 3) := by decide +kernel
theorem dX5_add_76 : decode cX5_add 76 = .ok (.invokevirtual 88, 3) := by decide +kernel
theorem dX5_add_79 : decode cX5_add 79 = .ok (.aload_n 0, 1) := by decide +kernel
theorem dX5_add_80 : decode cX5_add 80 = .ok (.iload_n 1, 1) := by decide +kernel
theorem dX5_add_81 : decode cX5_add 81 = .ok (.iload_n 2, 1) := by decide +kernel
theorem dX5_add_82 : decode cX5_add 82 = .ok (.sipush 256, 3) := by decide +kernel
theorem dX5_add_85 : decode cX5_add 85 = .ok (.idiv, 1) := by decide +kernel
theorem dX5_add_86 : decode cX5_add 86 = .ok (.invokevirtual 62, 3) := by decide +kernel
theorem dX5_add_89 : decode cX5_add 89 = .ok (.ireturn, 1) := by decide +kernel
set_option maxRecDepth 20000 in
theorem ggX5_remove_X5_isSet : GoodIn wsX5_remove wsX5_isSet := goodIn_r _ [7, 1, 8, 9, 6, 10, 76, 77, 78, 79, 80, 81, 82, 83, 84, 85, 86, 87, 88] (by decide +kernel) (by decide +kernel)
set_option maxRecDepth 20000 in
theorem gX5_remove_X5_isSet : GoodIn wsX5_remove (wsV RX5 92 RX5 yX5_isSet wsX5_isSet) := goodIn_app (goodIn_of _ (by decide +kernel)) ggX5_remove_X5_isSet
set_option maxRecDepth 20000 in
theorem ggX5_remove_X5_isNumber : GoodIn wsX5_remove wsX5_isNumber := goodIn_r _ [13, 8, 9, 6, 10] (by decide +kernel) (by decide +kernel)
set_option maxRecDepth 20000 in
theorem gX5_remove_X5_isNumber : GoodIn wsX5_remove (va_wsS RX5 112 yX5_isNumber wsX5_isNumber) := goodIn_app (goodIn_of _ (by decide +kernel)) ggX5_remove_X5_isNumber
set_option maxRecDepth 20000 in
theorem ggX5_remove_X5_isIn : GoodIn wsX5_remove wsX5_isIn := goodIn_r _ [17, 18, 19, 20, 6, 21, 1, 76, 77, 78, 79, 80, 81, 82, 83, 84, 85, 86, 87, 88] (by decide +kernel) (by decide +kernel)
set_option maxRecDepth 20000 in
theorem gX5_remove_X5_isIn : GoodIn wsX5_remove (wsV RX5 51 RX5 yX5_isIn wsX5_isIn) := goodIn_app (goodIn_of _ (by decide +kernel)) ggX5_remove_X5_isIn
set_option maxRecDepth 20000 in
theorem ggX5_remove_X5_copies : GoodIn wsX5_remove wsX5_copies := goodIn_r _ [24] (by decide +kernel) (by decide +kernel)
set_option maxRecDepth 20000 in
theorem gX5_remove_X5_copies : GoodIn wsX5_remove (va_wsS RX5 35 yX5_copies wsX5_copies) := goodIn_app (goodIn_of _ (by decide +kernel)) ggX5_remove_X5_copies
set_option maxRecDepth 20000 in
theorem ggX5_remove_X5_goes : GoodIn wsX5_remove wsX5_goes := goodIn_r _ [28, 29, 30, 31, 6, 32, 18, 19, 20, 21, 1, 33, 34, 35, 36, 37, 38, 39, 40, 41, 42, 43, 44, 14, 15, 16, 17, 45, 46, 47, 48, 49, 50, 51, 52, 53, 54, 55, 56, 57, 58, 59, 60, 61, 62, 63, 64, 65, 66, 67, 68, 69, 76, 77, 78, 79, 80, 81, 82, 83, 84, 85, 86, 87, 88] (by decide +kernel) (by decide +kernel)
set_option maxRecDepth 20000 in
theorem gX5_remove_X5_goes : GoodIn wsX5_remove (wsV RX5 115 RX5 yX5_goes wsX5_goes) := goodIn_app (goodIn_of _ (by decide +kernel)) ggX5_remove_X5_goes
set_option maxRecDepth 20000 in
theorem ggX5_remove_X5_records : GoodIn wsX5_remove wsX5_records := goodIn_r _ [73, 74, 75, 22, 23, 6, 24, 76, 77, 78, 79, 80, 81, 82, 83, 84, 85, 86, 87, 88] (by decide +kernel) (by decide +kernel)
set_option maxRecDepth 20000 in
theorem gX5_remove_X5_records : GoodIn wsX5_remove (wsV RX5 88 RX5 yX5_records wsX5_records) := goodIn_app (goodIn_of _ (by decide +kernel)) ggX5_remove_X5_records
set_option maxRecDepth 20000 in
theorem ggX5_remove_X5_manyIn : GoodIn wsX5_remove wsX5_manyIn := goodIn_r _ [44, 14, 15, 16, 6, 17, 18, 19, 20, 21, 1, 76, 77, 78, 79, 80, 81, 82, 83, 84, 85, 86, 87, 88] (by decide +kernel) (by decide +kernel)
set_option maxRecDepth 20000 in
theorem gX5_remove_X5_manyIn : GoodIn wsX5_remove (wsV RX5 65 RX5 yX5_manyIn wsX5_manyIn) := goodIn_app (goodIn_of _ (by decide +kernel)) ggX5_remove_X5_manyIn
theorem dX5_remove_0 : decode cX5_remove 0 = .ok (.aload_n 0, 1) := by decide +kernel
theorem dX5_remove_1 : decode cX5_remove 1 = .ok (.iload_n 1, 1) := by decide +kernel
theorem dX5_remove_2 : decode cX5_remove 2 = .ok (.invokevirtual 92, 3) := by decide +kernel
theorem dX5_remove_5 : decode cX5_remove 5 = .ok (.ifCond .ne 5, 3) := by decide +kernel
theorem dX5_remove_8 : decode cX5_remove 8 = .ok (.iconst (-1), 1) := by decide +kernel
theorem dX5_remove_9 : decode cX5_remove 9 = .ok (.ireturn, 1) := by decide +kernel
theorem dX5_remove_10 : decode cX5_remove 10 = .ok (.iload_n 2, 1) := by decide +kernel
theorem dX5_remove_11 : decode cX5_remove 11 = .ok (.invokestatic 112, 3) := by decide +kernel
theorem dX5_remove_14 : decode cX5_remove 14 = .ok (.ifCond .ne 6, 3) := by decide +kernel
theorem dX5_remove_17 : decode cX5_remove 17 = .ok (.bipush (-2), 2) := by decide +kernel
theorem dX5_remove_19 : decode cX5_remove 19 = .ok (.ireturn, 1) := by decide +kernel
theorem dX5_remove_20 : decode cX5_remove 20 = .ok (.aload_n 0, 1) := by decide +kernel
theorem dX5_remove_21 : decode cX5_remove 21 = .ok (.iload_n 1, 1) := by decide +kernel
theorem dX5_remove_22 : decode cX5_remove 22 = .ok (.iload_n 2, 1) := by decide +kernel
theorem dX5_remove_23 : decode cX5_remove 23 = .ok (.invokevirtual 51, 3) := by decide +kernel
theorem dX5_remove_26 : decode cX5_remove 26 = .ok (.ifCond .ne 6, 3) := by decide +kernel
theorem dX5_remove_29 : decode cX5_remove 29 = .ok (.bipush (-5), 2) := by decide +kernel
theorem dX5_remove_31 : decode cX5_remove 31 = .ok (.ireturn, 1) := by decide +kernel
theorem dX5_remove_32 : decode cX5_remove 32 = .ok (.aload_n 0, 1) := by decide +kernel
theorem dX5_remove_33 : decode cX5_remove 33 = .ok (.getfield 7, 3) := by decide +kernel
theorem dX5_remove_36 : decode cX5_remove 36 = .ok (.iconst 0, 1) := by decide +kernel
theorem dX5_remove_37 : decode cX5_remove 37 = .ok (.aload_n 0, 1) := by decide +kernel
theorem dX5_remove_38 : decode cX5_remove 38 = .ok (.getfield 19, 3) := by decide +kernel
theorem dX5_remove_41 : decode cX5_remove 41 = .ok (.iconst 0, 1) := by decide +kernel
theorem dX5_remove_42 : decode cX5_remove 42 = .ok (.invokestatic 35, 3) := by decide +kernel
theorem dX5_remove_45 : decode cX5_remove 45 = .ok (.aload_n 0, 1) := by decide +kernel
theorem dX5_remove_46 : decode cX5_remove 46 = .ok (.iload_n 1, 1) := by decide +kernel
theorem dX5_remove_47 : decode cX5_remove 47 = .ok (.iload_n 2, 1) := by decide +kernel
theorem dX5_remove_48 : decode cX5_remove 48 = .ok (.iconst 0, 1) := by decide +kernel
theorem dX5_remove_49 : decode cX5_remove 49 = .ok (.invokevirtual 115, 3) := by decide +kernel
theorem dX5_remove_52 : decode cX5_remove 52 = .ok (.ifCond .ne 19, 3) := by decide +kernel
theorem dX5_remove_55 : decode cX5_remove 55 = .ok (.aload_n 0, 1) := by decide +kernel
theorem dX5_remove_56 : decode cX5_remove 56 = .ok (.getfield 19, 3) := by decide +kernel
theorem dX5_remove_59 : decode cX5_remove 59 = .ok (.iconst 0, 1) := by decide +kernel
theorem dX5_remove_60 : decode cX5_remove 60 = .ok (.aload_n 0, 1) := by decide +kernel
theorem dX5_remove_61 : decode cX5_remove 61 = .ok (.getfield 7, 3) := by decide +kernel
theorem dX5_remove_64 : decode cX5_remove 64 = .ok (.iconst 0, 1) := by decide +kernel
theorem dX5_remove_65 : decode cX5_remove 65 = .ok (.invokestatic 35, 3) := by decide +kernel
theorem dX5_remove_68 : decode cX5_remove 68 = .ok (.bipush (-3), 2) := by decide +kernel
theorem dX5_remove_70 : decode cX5_remove 70 = .ok (.ireturn, 1) := by decide +kernel
theorem dX5_remove_71 : decode cX5_remove 71 = .ok (.aload_n 0, 1) := by decide +kernel
theorem dX5_remove_72 : decode cX5_remove 72 = .ok (.aload_n 0, 1) := by decide +kernel
theorem dX5_remove_73 : decode cX5_remove 73 = .ok (.getfield 19, 3) := by decide +kernel
theorem dX5_remove_76 : decode cX5_remove 76 = .ok (.invokevirtual 88, 3) := by decide +kernel
theorem dX5_remove_79 : decode cX5_remove 79 = .ok (.aload_n 0, 1) := by decide +kernel
theorem dX5_remove_80 : decode cX5_remove 80 = .ok (.iload_n 1, 1) := by decide +kernel
theorem dX5_remove_81 : decode cX5_remove 81 = .ok (.iload_n 2, 1) := by decide +kernel
theorem dX5_remove_82 : decode cX5_remove 82 = .ok (.sipush 256, 3) := by decide +kernel
theorem dX5_remove_85 : decode cX5_remove 85 = .ok (.idiv, 1) := by decide +kernel
theorem dX5_remove_86 : decode cX5_remove 86 = .ok (.invokevirtual 65, 3) := by decide +kernel
theorem dX5_remove_89 : decode cX5_remove 89 = .ok (.ireturn, 1) := by decide +kernel
set_option maxRecDepth 20000 in
theorem ggX5_goesAll_X5_isIn : GoodIn wsX5_goesAll wsX5_isIn := goodIn_r _ [5, 6, 7, 8, 4, 9, 10, 56, 57, 58, 59, 60, 61, 62, 63, 64, 65, 66, 67, 68] (by decide +kernel) (by decide +kernel)
set_option maxRecDepth 20000 in
theorem gX5_goesAll_X5_isIn : GoodIn wsX5_goesAll (wsV RX5 51 RX5 yX5_isIn wsX5_isIn) := goodIn_app (goodIn_of _ (by decide +kernel)) ggX5_goesAll_X5_isIn
set_option maxRecDepth 20000 in
theorem ggX5_goesAll_X5_goes : GoodIn wsX5_goesAll wsX5_goes := goodIn_r _ [14, 15, 16, 17, 4, 18, 6, 7, 8, 9, 10, 19, 20, 21, 22, 23, 24, 25, 26, 27, 28, 29, 30, 1, 2, 3, 5, 31, 32, 33, 34, 35, 36, 37, 38, 39, 40, 41, 42, 43, 44, 45, 46, 47, 48, 49, 50, 51, 52, 53, 54, 55, 56, 57, 58, 59, 60, 61, 62, 63, 64, 65, 66, 67, 68] (by decide +kernel) (by decide +kernel)
set_option maxRecDepth 20000 in
theorem gX5_goesAll_X5_goes : GoodIn wsX5_goesAll (wsV RX5 115 RX5 yX5_goes wsX5_goes) := goodIn_app (goodIn_of _ (by decide +kernel)) ggX5_goesAll_X5_goes
theorem dX5_goesAll_0 : decode cX5_goesAll 0 = .ok (.iconst 0, 1) := by decide +kernel
theorem dX5_goesAll_1 : decode cX5_goesAll 1 = .ok (.istore 5, 2) := by decide +kernel
theorem dX5_goesAll_3 : decode cX5_goesAll 3 = .ok (.iload_n 2, 1) := by decide +kernel
theorem dX5_goesAll_4 : decode cX5_goesAll 4 = .ok (.istore 6, 2) := by decide +kernel
theorem dX5_goesAll_6 : decode cX5_goesAll 6 = .ok (.iload 6, 2) := by decide +kernel
theorem dX5_goesAll_8 : decode cX5_goesAll 8 = .ok (.iload_n 3, 1) := by decide +kernel
theorem dX5_goesAll_9 : decode cX5_goesAll 9 = .ok (.if_icmp .gt 38, 3) := by decide +kernel
theorem dX5_goesAll_12 : decode cX5_goesAll 12 = .ok (.aload_n 0, 1) := by decide +kernel
theorem dX5_goesAll_13 : decode cX5_goesAll 13 = .ok (.iload_n 1, 1) := by decide +kernel
theorem dX5_goesAll_14 : decode cX5_goesAll 14 = .ok (.iload 6, 2) := by decide +kernel
theorem dX5_goesAll_16 : decode cX5_goesAll 16 = .ok (.invokevirtual 51, 3) := by decide +kernel
theorem dX5_goesAll_19 : decode cX5_goesAll 19 = .ok (.iload 4, 2) := by decide +kernel
theorem dX5_goesAll_21 : decode cX5_goesAll 21 = .ok (.if_icmp .eq 20, 3) := by decide +kernel
theorem dX5_goesAll_24 : decode cX5_goesAll 24 = .ok (.aload_n 0, 1) := by decide +kernel
theorem dX5_goesAll_25 : decode cX5_goesAll 25 = .ok (.iload_n 1, 1) := by decide +kernel
theorem dX5_goesAll_26 : decode cX5_goesAll 26 = .ok (.iload 6, 2) := by decide +kernel
theorem dX5_goesAll_28 : decode cX5_goesAll 28 = .ok (.iload 4, 2) := by decide +kernel
theorem dX5_goesAll_30 : decode cX5_goesAll 30 = .ok (.invokevirtual 115, 3) := by decide +kernel
theorem dX5_goesAll_33 : decode cX5_goesAll 33 = .ok (.ifCond .ne 5, 3) := by decide +kernel
theorem dX5_goesAll_36 : decode cX5_goesAll 36 = .ok (.iconst (-1), 1) := by decide +kernel
theorem dX5_goesAll_37 : decode cX5_goesAll 37 = .ok (.ireturn, 1) := by decide +kernel
theorem dX5_goesAll_38 : decode cX5_goesAll 38 = .ok (.iinc 5 1, 3) := by decide +kernel
theorem dX5_goesAll_41 : decode cX5_goesAll 41 = .ok (.iinc 6 1, 3) := by decide +kernel
theorem dX5_goesAll_44 : decode cX5_goesAll 44 = .ok (.goto (-38), 3) := by decide +kernel
theorem dX5_goesAll_47 : decode cX5_goesAll 47 = .ok (.iload 5, 2) := by decide +kernel
theorem dX5_goesAll_49 : decode cX5_goesAll 49 = .ok (.ireturn, 1) := by decide +kernel
set_option maxRecDepth 20000 in
theorem ggX5_ends_X5_copies : GoodIn wsX5_ends wsX5_copies := goodIn_r _ [6] (by decide +kernel) (by decide +kernel)
set_option maxRecDepth 20000 in
theorem gX5_ends_X5_copies : GoodIn wsX5_ends (va_wsS RX5 35 yX5_copies wsX5_copies) := goodIn_app (goodIn_of _ (by decide +kernel)) ggX5_ends_X5_copies
set_option maxRecDepth 20000 in
theorem ggX5_ends_X5_records : GoodIn wsX5_ends wsX5_records := goodIn_r _ [10, 11, 12, 3, 4, 5, 6, 13, 14, 15, 16, 17, 18, 19, 20, 21, 22, 23, 24, 25] (by decide +kernel) (by decide +kernel)
set_option maxRecDepth 20000 in
theorem gX5_ends_X5_records : GoodIn wsX5_ends (wsV RX5 88 RX5 yX5_records wsX5_records) := goodIn_app (goodIn_of _ (by decide +kernel)) ggX5_ends_X5_records
theorem dX5_ends_0 : decode cX5_ends 0 = .ok (.iload_n 1, 1) := by decide +kernel
theorem dX5_ends_1 : decode cX5_ends 1 = .ok (.ifCond .gt 28, 3) := by decide +kernel
theorem dX5_ends_4 : decode cX5_ends 4 = .ok (.aload_n 0, 1) := by decide +kernel
theorem dX5_ends_5 : decode cX5_ends 5 = .ok (.getfield 19, 3) := by decide +kernel
theorem dX5_ends_8 : decode cX5_ends 8 = .ok (.iconst 0, 1) := by decide +kernel
theorem dX5_ends_9 : decode cX5_ends 9 = .ok (.aload_n 0, 1) := by decide +kernel
theorem dX5_ends_10 : decode cX5_ends 10 = .ok (.getfield 7, 3) := by decide +kernel
theorem dX5_ends_13 : decode cX5_ends 13 = .ok (.iconst 0, 1) := by decide +kernel
theorem dX5_ends_14 : decode cX5_ends 14 = .ok (.invokestatic 35, 3) := by decide +kernel
theorem dX5_ends_17 : decode cX5_ends 17 = .ok (.iload_n 1, 1) := by decide +kernel
theorem dX5_ends_18 : decode cX5_ends 18 = .ok (.ifCond .ne 8, 3) := by decide +kernel
theorem dX5_ends_21 : decode cX5_ends 21 = .ok (.bipush (-5), 2) := by decide +kernel
theorem dX5_ends_23 : decode cX5_ends 23 = .ok (.goto 5, 3) := by decide +kernel
theorem dX5_ends_26 : decode cX5_ends 26 = .ok (.bipush (-3), 2) := by decide +kernel
theorem dX5_ends_28 : decode cX5_ends 28 = .ok (.ireturn, 1) := by decide +kernel
theorem dX5_ends_29 : decode cX5_ends 29 = .ok (.aload_n 0, 1) := by decide +kernel
theorem dX5_ends_30 : decode cX5_ends 30 = .ok (.aload_n 0, 1) := by decide +kernel
theorem dX5_ends_31 : decode cX5_ends 31 = .ok (.getfield 19, 3) := by decide +kernel
theorem dX5_ends_34 : decode cX5_ends 34 = .ok (.invokevirtual 88, 3) := by decide +kernel
theorem dX5_ends_37 : decode cX5_ends 37 = .ok (.iload_n 1, 1) := by decide +kernel
theorem dX5_ends_38 : decode cX5_ends 38 = .ok (.ireturn, 1) := by decide +kernel
set_option maxRecDepth 20000 in
theorem ggX5_ranges_X5_isSet : GoodIn wsX5_ranges wsX5_isSet := goodIn_r _ [7, 1, 8, 9, 6, 10, 84, 85, 86, 87, 88, 89, 90, 91, 92, 93, 94, 95, 96] (by decide +kernel) (by decide +kernel)
set_option maxRecDepth 20000 in
theorem gX5_ranges_X5_isSet : GoodIn wsX5_ranges (wsV RX5 92 RX5 yX5_isSet wsX5_isSet) := goodIn_app (goodIn_of _ (by decide +kernel)) ggX5_ranges_X5_isSet
set_option maxRecDepth 20000 in
theorem ggX5_ranges_X5_isNumber : GoodIn wsX5_ranges wsX5_isNumber := goodIn_r _ [13, 8, 9, 6, 10] (by decide +kernel) (by decide +kernel)
set_option maxRecDepth 20000 in
theorem gX5_ranges_X5_isNumber : GoodIn wsX5_ranges (va_wsS RX5 112 yX5_isNumber wsX5_isNumber) := goodIn_app (goodIn_of _ (by decide +kernel)) ggX5_ranges_X5_isNumber
set_option maxRecDepth 20000 in
theorem ggX5_ranges_X5_in : GoodIn wsX5_ranges wsX5_in := goodIn_r _ [10] (by decide +kernel) (by decide +kernel)
set_option maxRecDepth 20000 in
theorem gX5_ranges_X5_in : GoodIn wsX5_ranges (va_wsS RX5 39 yX5_in wsX5_in) := goodIn_app (goodIn_of _ (by decide +kernel)) ggX5_ranges_X5_in
set_option maxRecDepth 20000 in
theorem ggX5_ranges_X5_copies : GoodIn wsX5_ranges wsX5_copies := goodIn_r _ [16] (by decide +kernel) (by decide +kernel)
set_option maxRecDepth 20000 in
theorem gX5_ranges_X5_copies : GoodIn wsX5_ranges (va_wsS RX5 35 yX5_copies wsX5_copies) := goodIn_app (goodIn_of _ (by decide +kernel)) ggX5_ranges_X5_copies
set_option maxRecDepth 20000 in
theorem ggX5_ranges_X5_goesAll : GoodIn wsX5_ranges wsX5_goesAll := goodIn_r _ [20, 21, 22, 23, 6, 24, 25, 26, 27, 28, 1, 29, 30, 31, 32, 33, 34, 35, 36, 37, 38, 39, 40, 41, 42, 43, 44, 45, 46, 47, 48, 49, 50, 51, 52, 53, 54, 55, 56, 57, 58, 59, 60, 61, 62, 63, 64, 65, 66, 67, 68, 69, 70, 71, 72, 73, 84, 85, 86, 87, 88, 89, 90, 91, 92, 93, 94, 95, 96] (by decide +kernel) (by decide +kernel)
set_option maxRecDepth 20000 in
theorem gX5_ranges_X5_goesAll : GoodIn wsX5_ranges (wsV RX5 119 RX5 yX5_goesAll wsX5_goesAll) := goodIn_app (goodIn_of _ (by decide +kernel)) ggX5_ranges_X5_goesAll
set_option maxRecDepth 20000 in
theorem ggX5_ranges_X5_ends : GoodIn wsX5_ranges wsX5_ends := goodIn_r _ [77, 2, 1, 14, 15, 6, 16, 78, 79, 80, 81, 82, 83, 84, 85, 86, 87, 88, 89, 90, 91, 92, 93, 94, 95, 96] (by decide +kernel) (by decide +kernel)
set_option maxRecDepth 20000 in
theorem gX5_ranges_X5_ends : GoodIn wsX5_ranges (wsV RX5 123 RX5 yX5_ends wsX5_ends) := goodIn_app (goodIn_of _ (by decide +kernel)) ggX5_ranges_X5_ends
theorem dX5_ranges_0 : decode cX5_ranges 0 = .ok (.aload_n 0, 1) := by decide +kernel
theorem dX5_ranges_1 : decode cX5_ranges 1 = .ok (.iload_n 1, 1) := by decide +kernel
theorem dX5_ranges_2 : decode cX5_ranges 2 = .ok (.invokevirtual 92, 3) := by decide +kernel
theorem dX5_ranges_5 : decode cX5_ranges 5 = .ok (.ifCond .ne 5, 3) := by decide +kernel
theorem dX5_ranges_8 : decode cX5_ranges 8 = .ok (.iconst (-1), 1) := by decide +kernel
theorem dX5_ranges_9 : decode cX5_ranges 9 = .ok (.ireturn, 1) := by decide +kernel
theorem dX5_ranges_10 : decode cX5_ranges 10 = .ok (.iload_n 2, 1) := by decide +kernel
theorem dX5_ranges_11 : decode cX5_ranges 11 = .ok (.invokestatic 112, 3) := by decide +kernel
theorem dX5_ranges_14 : decode cX5_ranges 14 = .ok (.ifCond .eq 14, 3) := by decide +kernel
theorem dX5_ranges_17 : decode cX5_ranges 17 = .ok (.iload_n 3, 1) := by decide +kernel
theorem dX5_ranges_18 : decode cX5_ranges 18 = .ok (.iload_n 2, 1) := by decide +kernel
theorem dX5_ranges_19 : decode cX5_ranges 19 = .ok (.sipush 2047, 3) := by decide +kernel
theorem dX5_ranges_22 : decode cX5_ranges 22 = .ok (.invokestatic 39, 3) := by decide +kernel
theorem dX5_ranges_25 : decode cX5_ranges 25 = .ok (.ifCond .ne 6, 3) := by decide +kernel
theorem dX5_ranges_28 : decode cX5_ranges 28 = .ok (.bipush (-2), 2) := by decide +kernel
theorem dX5_ranges_30 : decode cX5_ranges 30 = .ok (.ireturn, 1) := by decide +kernel
theorem dX5_ranges_31 : decode cX5_ranges 31 = .ok (.aload_n 0, 1) := by decide +kernel
theorem dX5_ranges_32 : decode cX5_ranges 32 = .ok (.getfield 7, 3) := by decide +kernel
theorem dX5_ranges_35 : decode cX5_ranges 35 = .ok (.iconst 0, 1) := by decide +kernel
theorem dX5_ranges_36 : decode cX5_ranges 36 = .ok (.aload_n 0, 1) := by decide +kernel
theorem dX5_ranges_37 : decode cX5_ranges 37 = .ok (.getfield 19, 3) := by decide +kernel
theorem dX5_ranges_40 : decode cX5_ranges 40 = .ok (.iconst 0, 1) := by decide +kernel
theorem dX5_ranges_41 : decode cX5_ranges 41 = .ok (.invokestatic 35, 3) := by decide +kernel
theorem dX5_ranges_44 : decode cX5_ranges 44 = .ok (.aload_n 0, 1) := by decide +kernel
theorem dX5_ranges_45 : decode cX5_ranges 45 = .ok (.aload_n 0, 1) := by decide +kernel
theorem dX5_ranges_46 : decode cX5_ranges 46 = .ok (.iload_n 1, 1) := by decide +kernel
theorem dX5_ranges_47 : decode cX5_ranges 47 = .ok (.iload_n 2, 1) := by decide +kernel
theorem dX5_ranges_48 : decode cX5_ranges 48 = .ok (.iload_n 3, 1) := by decide +kernel
theorem dX5_ranges_49 : decode cX5_ranges 49 = .ok (.iload 4, 2) := by decide +kernel
theorem dX5_ranges_51 : decode cX5_ranges 51 = .ok (.invokevirtual 119, 3) := by decide +kernel
theorem dX5_ranges_54 : decode cX5_ranges 54 = .ok (.invokevirtual 123, 3) := by decide +kernel
theorem dX5_ranges_57 : decode cX5_ranges 57 = .ok (.ireturn, 1) := by decide +kernel
set_option maxRecDepth 20000 in
theorem ggX5_addRange_X5_ranges : GoodIn wsX5_addRange wsX5_ranges := goodIn_r _ [5, 6, 7, 8, 9, 10, 4, 11, 12, 13, 14, 15, 16, 17, 18, 19, 20, 21, 22, 23, 24, 25, 26, 27, 28, 29, 30, 31, 32, 33, 34, 35, 36, 37, 38, 39, 40, 41, 42, 43, 44, 45, 46, 47, 48, 49, 50, 51, 52, 53, 54, 55, 56, 57, 58, 59, 60, 61, 62, 63, 64, 65, 66, 67, 68, 69, 70, 71, 72, 73, 74, 75, 76, 77, 78, 79, 80, 81, 82, 83, 84, 85, 86, 87, 88, 89, 90, 91, 92, 93, 94, 95, 96, 97, 98, 99, 100] (by decide +kernel) (by decide +kernel)
set_option maxRecDepth 20000 in
theorem gX5_addRange_X5_ranges : GoodIn wsX5_addRange (wsV RX5 126 RX5 yX5_ranges wsX5_ranges) := goodIn_app (goodIn_of _ (by decide +kernel)) ggX5_addRange_X5_ranges
theorem dX5_addRange_0 : decode cX5_addRange 0 = .ok (.aload_n 0, 1) := by decide +kernel
theorem dX5_addRange_1 : decode cX5_addRange 1 = .ok (.iload_n 1, 1) := by decide +kernel
theorem dX5_addRange_2 : decode cX5_addRange 2 = .ok (.iload_n 2, 1) := by decide +kernel
theorem dX5_addRange_3 : decode cX5_addRange 3 = .ok (.iload_n 3, 1) := by decide +kernel
theorem dX5_addRange_4 : decode cX5_addRange 4 = .ok (.iconst 1, 1) := by decide +kernel
theorem dX5_addRange_5 : decode cX5_addRange 5 = .ok (.invokevirtual 126, 3) := by decide +kernel
theorem dX5_addRange_8 : decode cX5_addRange 8 = .ok (.ireturn, 1) := by decide +kernel
set_option maxRecDepth 20000 in
theorem ggX5_removeRange_X5_ranges : GoodIn wsX5_removeRange wsX5_ranges := goodIn_r _ [5, 6, 7, 8, 9, 10, 4, 11, 12, 13, 14, 15, 16, 17, 18, 19, 20, 21, 22, 23, 24, 25, 26, 27, 28, 29, 30, 31, 32, 33, 34, 35, 36, 37, 38, 39, 40, 41, 42, 43, 44, 45, 46, 47, 48, 49, 50, 51, 52, 53, 54, 55, 56, 57, 58, 59, 60, 61, 62, 63, 64, 65, 66, 67, 68, 69, 70, 71, 72, 73, 74, 75, 76, 77, 78, 79, 80, 81, 82, 83, 84, 85, 86, 87, 88, 89, 90, 91, 92, 93, 94, 95, 96, 97, 98, 99, 100] (by decide +kernel) (by decide +kernel)
set_option maxRecDepth 20000 in
theorem gX5_removeRange_X5_ranges : GoodIn wsX5_removeRange (wsV RX5 126 RX5 yX5_ranges wsX5_ranges) := goodIn_app (goodIn_of _ (by decide +kernel)) ggX5_removeRange_X5_ranges
theorem dX5_removeRange_0 : decode cX5_removeRange 0 = .ok (.aload_n 0, 1) := by decide +kernel
theorem dX5_removeRange_1 : decode cX5_removeRange 1 = .ok (.iload_n 1, 1) := by decide +kernel
theorem dX5_removeRange_2 : decode cX5_removeRange 2 = .ok (.iload_n 2, 1) := by decide +kernel
theorem dX5_removeRange_3 : decode cX5_removeRange 3 = .ok (.iload_n 3, 1) := by decide +kernel
theorem dX5_removeRange_4 : decode cX5_removeRange 4 = .ok (.iconst 0, 1) := by decide +kernel
theorem dX5_removeRange_5 : decode cX5_removeRange 5 = .ok (.invokevirtual 126, 3) := by decide +kernel
theorem dX5_removeRange_8 : decode cX5_removeRange 8 = .ok (.ireturn, 1) := by decide +kernel
theorem dX5_gives_0 : decode cX5_gives 0 = .ok (.iload_n 0, 1) := by decide +kernel
theorem dX5_gives_1 : decode cX5_gives 1 = .ok (.ifCond .ne 19, 3) := by decide +kernel
theorem dX5_gives_4 : decode cX5_gives 4 = .ok (.iload_n 1, 1) := by decide +kernel
theorem dX5_gives_5 : decode cX5_gives 5 = .ok (.ifCond .ne 7, 3) := by decide +kernel
theorem dX5_gives_8 : decode cX5_gives 8 = .ok (.iload_n 2, 1) := by decide +kernel
theorem dX5_gives_9 : decode cX5_gives 9 = .ok (.ifCond .eq 7, 3) := by decide +kernel
theorem dX5_gives_12 : decode cX5_gives 12 = .ok (.iconst 1, 1) := by decide +kernel
theorem dX5_gives_13 : decode cX5_gives 13 = .ok (.goto 59, 3) := by decide +kernel
theorem dX5_gives_16 : decode cX5_gives 16 = .ok (.iconst 0, 1) := by decide +kernel
theorem dX5_gives_17 : decode cX5_gives 17 = .ok (.goto 55, 3) := by decide +kernel
theorem dX5_gives_20 : decode cX5_gives 20 = .ok (.iload_n 0, 1) := by decide +kernel
theorem dX5_gives_21 : decode cX5_gives 21 = .ok (.iconst 1, 1) := by decide +kernel
theorem dX5_gives_22 : decode cX5_gives 22 = .ok (.if_icmp .ne 19, 3) := by decide +kernel
theorem dX5_gives_25 : decode cX5_gives 25 = .ok (.iload_n 1, 1) := by decide +kernel
theorem dX5_gives_26 : decode cX5_gives 26 = .ok (.ifCond .eq 11, 3) := by decide +kernel
theorem dX5_gives_29 : decode cX5_gives 29 = .ok (.iload_n 2, 1) := by decide +kernel
theorem dX5_gives_30 : decode cX5_gives 30 = .ok (.ifCond .eq 7, 3) := by decide +kernel
theorem dX5_gives_33 : decode cX5_gives 33 = .ok (.iconst 1, 1) := by decide +kernel
theorem dX5_gives_34 : decode cX5_gives 34 = .ok (.goto 38, 3) := by decide +kernel
theorem dX5_gives_37 : decode cX5_gives 37 = .ok (.iconst 0, 1) := by decide +kernel
theorem dX5_gives_38 : decode cX5_gives 38 = .ok (.goto 34, 3) := by decide +kernel
theorem dX5_gives_41 : decode cX5_gives 41 = .ok (.iload_n 0, 1) := by decide +kernel
theorem dX5_gives_42 : decode cX5_gives 42 = .ok (.iconst 2, 1) := by decide +kernel
theorem dX5_gives_43 : decode cX5_gives 43 = .ok (.if_icmp .ne 19, 3) := by decide +kernel
theorem dX5_gives_46 : decode cX5_gives 46 = .ok (.iload_n 1, 1) := by decide +kernel
theorem dX5_gives_47 : decode cX5_gives 47 = .ok (.ifCond .eq 11, 3) := by decide +kernel
theorem dX5_gives_50 : decode cX5_gives 50 = .ok (.iload_n 2, 1) := by decide +kernel
theorem dX5_gives_51 : decode cX5_gives 51 = .ok (.ifCond .ne 7, 3) := by decide +kernel
theorem dX5_gives_54 : decode cX5_gives 54 = .ok (.iconst 1, 1) := by decide +kernel
theorem dX5_gives_55 : decode cX5_gives 55 = .ok (.goto 17, 3) := by decide +kernel
theorem dX5_gives_58 : decode cX5_gives 58 = .ok (.iconst 0, 1) := by decide +kernel
theorem dX5_gives_59 : decode cX5_gives 59 = .ok (.goto 13, 3) := by decide +kernel
theorem dX5_gives_62 : decode cX5_gives 62 = .ok (.iload_n 1, 1) := by decide +kernel
theorem dX5_gives_63 : decode cX5_gives 63 = .ok (.iload_n 2, 1) := by decide +kernel
theorem dX5_gives_64 : decode cX5_gives 64 = .ok (.if_icmp .eq 7, 3) := by decide +kernel
theorem dX5_gives_67 : decode cX5_gives 67 = .ok (.iconst 1, 1) := by decide +kernel
theorem dX5_gives_68 : decode cX5_gives 68 = .ok (.goto 4, 3) := by decide +kernel
theorem dX5_gives_71 : decode cX5_gives 71 = .ok (.iconst 0, 1) := by decide +kernel
theorem dX5_gives_72 : decode cX5_gives 72 = .ok (.ireturn, 1) := by decide +kernel
set_option maxRecDepth 20000 in
theorem ggX5_laysGiven_X5_isIn : GoodIn wsX5_laysGiven wsX5_isIn := goodIn_r _ [6, 7, 8, 9, 5, 10, 11, 15, 16, 17, 18, 19, 20, 21, 22, 23, 24, 25, 26, 27] (by decide +kernel) (by decide +kernel)
set_option maxRecDepth 20000 in
theorem gX5_laysGiven_X5_isIn : GoodIn wsX5_laysGiven (wsV RX5 51 RX5 yX5_isIn wsX5_isIn) := goodIn_app (goodIn_of _ (by decide +kernel)) ggX5_laysGiven_X5_isIn
set_option maxRecDepth 20000 in
theorem ggX5_laysGiven_X5_gives : GoodIn wsX5_laysGiven wsX5_gives := goodIn_r _ [14] (by decide +kernel) (by decide +kernel)
set_option maxRecDepth 20000 in
theorem gX5_laysGiven_X5_gives : GoodIn wsX5_laysGiven (va_wsS RX5 129 yX5_gives wsX5_gives) := goodIn_app (goodIn_of _ (by decide +kernel)) ggX5_laysGiven_X5_gives
theorem dX5_laysGiven_0 : decode cX5_laysGiven 0 = .ok (.iconst 0, 1) := by decide +kernel
theorem dX5_laysGiven_1 : decode cX5_laysGiven 1 = .ok (.istore 4, 2) := by decide +kernel
theorem dX5_laysGiven_3 : decode cX5_laysGiven 3 = .ok (.iconst 0, 1) := by decide +kernel
theorem dX5_laysGiven_4 : decode cX5_laysGiven 4 = .ok (.istore 5, 2) := by decide +kernel
theorem dX5_laysGiven_6 : decode cX5_laysGiven 6 = .ok (.iload 5, 2) := by decide +kernel
theorem dX5_laysGiven_8 : decode cX5_laysGiven 8 = .ok (.bipush 64, 2) := by decide +kernel
theorem dX5_laysGiven_10 : decode cX5_laysGiven 10 = .ok (.if_icmp .ge 17, 3) := by decide +kernel
theorem dX5_laysGiven_13 : decode cX5_laysGiven 13 = .ok (.aload_n 0, 1) := by decide +kernel
theorem dX5_laysGiven_14 : decode cX5_laysGiven 14 = .ok (.getfield 25, 3) := by decide +kernel
theorem dX5_laysGiven_17 : decode cX5_laysGiven 17 = .ok (.iload 5, 2) := by decide +kernel
theorem dX5_laysGiven_19 : decode cX5_laysGiven 19 = .ok (.iconst 0, 1) := by decide +kernel
theorem dX5_laysGiven_20 : decode cX5_laysGiven 20 = .ok (.iastore, 1) := by decide +kernel
theorem dX5_laysGiven_21 : decode cX5_laysGiven 21 = .ok (.iinc 5 1, 3) := by decide +kernel
theorem dX5_laysGiven_24 : decode cX5_laysGiven 24 = .ok (.goto (-18), 3) := by decide +kernel
theorem dX5_laysGiven_27 : decode cX5_laysGiven 27 = .ok (.iconst 0, 1) := by decide +kernel
theorem dX5_laysGiven_28 : decode cX5_laysGiven 28 = .ok (.istore 5, 2) := by decide +kernel
theorem dX5_laysGiven_30 : decode cX5_laysGiven 30 = .ok (.iload 5, 2) := by decide +kernel
theorem dX5_laysGiven_32 : decode cX5_laysGiven 32 = .ok (.sipush 2048, 3) := by decide +kernel
theorem dX5_laysGiven_35 : decode cX5_laysGiven 35 = .ok (.if_icmp .ge 53, 3) := by decide +kernel
theorem dX5_laysGiven_38 : decode cX5_laysGiven 38 = .ok (.iload_n 1, 1) := by decide +kernel
theorem dX5_laysGiven_39 : decode cX5_laysGiven 39 = .ok (.aload_n 0, 1) := by decide +kernel
theorem dX5_laysGiven_40 : decode cX5_laysGiven 40 = .ok (.iload_n 2, 1) := by decide +kernel
theorem dX5_laysGiven_41 : decode cX5_laysGiven 41 = .ok (.iload 5, 2) := by decide +kernel
theorem dX5_laysGiven_43 : decode cX5_laysGiven 43 = .ok (.invokevirtual 51, 3) := by decide +kernel
theorem dX5_laysGiven_46 : decode cX5_laysGiven 46 = .ok (.aload_n 0, 1) := by decide +kernel
theorem dX5_laysGiven_47 : decode cX5_laysGiven 47 = .ok (.iload_n 3, 1) := by decide +kernel
theorem dX5_laysGiven_48 : decode cX5_laysGiven 48 = .ok (.iload 5, 2) := by decide +kernel
theorem dX5_laysGiven_50 : decode cX5_laysGiven 50 = .ok (.invokevirtual 51, 3) := by decide +kernel
theorem dX5_laysGiven_53 : decode cX5_laysGiven 53 = .ok (.invokestatic 129, 3) := by decide +kernel
theorem dX5_laysGiven_56 : decode cX5_laysGiven 56 = .ok (.ifCond .eq 26, 3) := by decide +kernel
theorem dX5_laysGiven_59 : decode cX5_laysGiven 59 = .ok (.aload_n 0, 1) := by decide +kernel
theorem dX5_laysGiven_60 : decode cX5_laysGiven 60 = .ok (.getfield 25, 3) := by decide +kernel
theorem dX5_laysGiven_63 : decode cX5_laysGiven 63 = .ok (.iload 5, 2) := by decide +kernel
theorem dX5_laysGiven_65 : decode cX5_laysGiven 65 = .ok (.bipush 32, 2) := by decide +kernel
theorem dX5_laysGiven_67 : decode cX5_laysGiven 67 = .ok (.idiv, 1) := by decide +kernel
theorem dX5_laysGiven_68 : decode cX5_laysGiven 68 = .ok (.dup2, 1) := by decide +kernel
theorem dX5_laysGiven_69 : decode cX5_laysGiven 69 = .ok (.iaload, 1) := by decide +kernel
theorem dX5_laysGiven_70 : decode cX5_laysGiven 70 = .ok (.iconst 1, 1) := by decide +kernel
theorem dX5_laysGiven_71 : decode cX5_laysGiven 71 = .ok (.iload 5, 2) := by decide +kernel
theorem dX5_laysGiven_73 : decode cX5_laysGiven 73 = .ok (.bipush 32, 2) := by decide +kernel
theorem dX5_laysGiven_75 : decode cX5_laysGiven 75 = .ok (.irem, 1) := by decide +kernel
theorem dX5_laysGiven_76 : decode cX5_laysGiven 76 = .ok (.ishl, 1) := by decide +kernel
theorem dX5_laysGiven_77 : decode cX5_laysGiven 77 = .ok (.ior, 1) := by decide +kernel
theorem dX5_laysGiven_78 : decode cX5_laysGiven 78 = .ok (.iastore, 1) := by decide +kernel
theorem dX5_laysGiven_79 : decode cX5_laysGiven 79 = .ok (.iinc 4 1, 3) := by decide +kernel
theorem dX5_laysGiven_82 : decode cX5_laysGiven 82 = .ok (.iinc 5 1, 3) := by decide +kernel
theorem dX5_laysGiven_85 : decode cX5_laysGiven 85 = .ok (.goto (-55), 3) := by decide +kernel
theorem dX5_laysGiven_88 : decode cX5_laysGiven 88 = .ok (.iload 4, 2) := by decide +kernel
theorem dX5_laysGiven_90 : decode cX5_laysGiven 90 = .ok (.ireturn, 1) := by decide +kernel
set_option maxRecDepth 20000 in
theorem ggX5_combine_X5_isSet : GoodIn wsX5_combine wsX5_isSet := goodIn_r _ [7, 1, 8, 9, 6, 10, 60, 61, 62, 63, 64, 65, 66, 67, 68, 69, 70, 71, 72] (by decide +kernel) (by decide +kernel)
set_option maxRecDepth 20000 in
theorem gX5_combine_X5_isSet : GoodIn wsX5_combine (wsV RX5 92 RX5 yX5_isSet wsX5_isSet) := goodIn_app (goodIn_of _ (by decide +kernel)) ggX5_combine_X5_isSet
set_option maxRecDepth 20000 in
theorem ggX5_combine_X5_in : GoodIn wsX5_combine wsX5_in := goodIn_r _ [10] (by decide +kernel) (by decide +kernel)
set_option maxRecDepth 20000 in
theorem gX5_combine_X5_in : GoodIn wsX5_combine (va_wsS RX5 39 yX5_in wsX5_in) := goodIn_app (goodIn_of _ (by decide +kernel)) ggX5_combine_X5_in
set_option maxRecDepth 20000 in
theorem ggX5_combine_X5_of : GoodIn wsX5_combine wsX5_of := goodIn_r _ [14, 1, 60, 61, 62, 63, 64, 65, 66, 67, 68, 69, 70, 71, 72] (by decide +kernel) (by decide +kernel)
set_option maxRecDepth 20000 in
theorem gX5_combine_X5_of : GoodIn wsX5_combine (wsV RX5 43 RX5 yX5_of wsX5_of) := goodIn_app (goodIn_of _ (by decide +kernel)) ggX5_combine_X5_of
set_option maxRecDepth 20000 in
theorem ggX5_combine_X5_records : GoodIn wsX5_combine wsX5_records := goodIn_r _ [18, 19, 20, 21, 22, 6, 23, 60, 61, 62, 63, 64, 65, 66, 67, 68, 69, 70, 71, 72] (by decide +kernel) (by decide +kernel)
set_option maxRecDepth 20000 in
theorem gX5_combine_X5_records : GoodIn wsX5_combine (wsV RX5 88 RX5 yX5_records wsX5_records) := goodIn_app (goodIn_of _ (by decide +kernel)) ggX5_combine_X5_records
set_option maxRecDepth 20000 in
theorem ggX5_combine_X5_laysGiven : GoodIn wsX5_combine wsX5_laysGiven := goodIn_r _ [27, 2, 28, 29, 30, 6, 31, 11, 12, 13, 14, 1, 32, 33, 34, 60, 61, 62, 63, 64, 65, 66, 67, 68, 69, 70, 71, 72] (by decide +kernel) (by decide +kernel)
set_option maxRecDepth 20000 in
theorem gX5_combine_X5_laysGiven : GoodIn wsX5_combine (wsV RX5 133 RX5 yX5_laysGiven wsX5_laysGiven) := goodIn_app (goodIn_of _ (by decide +kernel)) ggX5_combine_X5_laysGiven
set_option maxRecDepth 20000 in
theorem ggX5_combine_X5_lays : GoodIn wsX5_combine wsX5_lays := goodIn_r _ [38, 1, 60, 61, 62, 63, 64, 65, 66, 67, 68, 69, 70, 71, 72] (by decide +kernel) (by decide +kernel)
set_option maxRecDepth 20000 in
theorem gX5_combine_X5_lays : GoodIn wsX5_combine (wsV RX5 47 RX5 yX5_lays wsX5_lays) := goodIn_app (goodIn_of _ (by decide +kernel)) ggX5_combine_X5_lays
set_option maxRecDepth 20000 in
theorem ggX5_combine_X5_manyIn : GoodIn wsX5_combine wsX5_manyIn := goodIn_r _ [42, 28, 29, 30, 6, 31, 11, 12, 13, 14, 1, 60, 61, 62, 63, 64, 65, 66, 67, 68, 69, 70, 71, 72] (by decide +kernel) (by decide +kernel)
set_option maxRecDepth 20000 in
theorem gX5_combine_X5_manyIn : GoodIn wsX5_combine (wsV RX5 65 RX5 yX5_manyIn wsX5_manyIn) := goodIn_app (goodIn_of _ (by decide +kernel)) ggX5_combine_X5_manyIn
set_option maxRecDepth 20000 in
theorem ggX5_combine_X5_bestOf : GoodIn wsX5_combine wsX5_bestOf := goodIn_r _ [46, 39, 40, 41, 6, 42, 28, 29, 30, 31, 11, 12, 13, 14, 1, 47, 48, 49, 50, 51, 52, 53, 54, 55, 56, 57, 58, 59, 60, 61, 62, 63, 64, 65, 66, 67, 68, 69, 70, 71, 72] (by decide +kernel) (by decide +kernel)
set_option maxRecDepth 20000 in
theorem gX5_combine_X5_bestOf : GoodIn wsX5_combine (wsV RX5 74 RX5 yX5_bestOf wsX5_bestOf) := goodIn_app (goodIn_of _ (by decide +kernel)) ggX5_combine_X5_bestOf
theorem dX5_combine_0 : decode cX5_combine 0 = .ok (.aload_n 0, 1) := by decide +kernel
theorem dX5_combine_1 : decode cX5_combine 1 = .ok (.iload_n 2, 1) := by decide +kernel
theorem dX5_combine_2 : decode cX5_combine 2 = .ok (.invokevirtual 92, 3) := by decide +kernel
theorem dX5_combine_5 : decode cX5_combine 5 = .ok (.ifCond .eq 20, 3) := by decide +kernel
theorem dX5_combine_8 : decode cX5_combine 8 = .ok (.aload_n 0, 1) := by decide +kernel
theorem dX5_combine_9 : decode cX5_combine 9 = .ok (.iload_n 3, 1) := by decide +kernel
theorem dX5_combine_10 : decode cX5_combine 10 = .ok (.invokevirtual 92, 3) := by decide +kernel
theorem dX5_combine_13 : decode cX5_combine 13 = .ok (.ifCond .eq 12, 3) := by decide +kernel
theorem dX5_combine_16 : decode cX5_combine 16 = .ok (.aload_n 0, 1) := by decide +kernel
theorem dX5_combine_17 : decode cX5_combine 17 = .ok (.iload 4, 2) := by decide +kernel
theorem dX5_combine_19 : decode cX5_combine 19 = .ok (.invokevirtual 92, 3) := by decide +kernel
theorem dX5_combine_22 : decode cX5_combine 22 = .ok (.ifCond .ne 5, 3) := by decide +kernel
theorem dX5_combine_25 : decode cX5_combine 25 = .ok (.iconst (-1), 1) := by decide +kernel
theorem dX5_combine_26 : decode cX5_combine 26 = .ok (.ireturn, 1) := by decide +kernel
theorem dX5_combine_27 : decode cX5_combine 27 = .ok (.iload_n 1, 1) := by decide +kernel
theorem dX5_combine_28 : decode cX5_combine 28 = .ok (.iconst 0, 1) := by decide +kernel
theorem dX5_combine_29 : decode cX5_combine 29 = .ok (.iconst 3, 1) := by decide +kernel
theorem dX5_combine_30 : decode cX5_combine 30 = .ok (.invokestatic 39, 3) := by decide +kernel
theorem dX5_combine_33 : decode cX5_combine 33 = .ok (.ifCond .ne 6, 3) := by decide +kernel
theorem dX5_combine_36 : decode cX5_combine 36 = .ok (.bipush (-2), 2) := by decide +kernel
theorem dX5_combine_38 : decode cX5_combine 38 = .ok (.ireturn, 1) := by decide +kernel
theorem dX5_combine_39 : decode cX5_combine 39 = .ok (.aload_n 0, 1) := by decide +kernel
theorem dX5_combine_40 : decode cX5_combine 40 = .ok (.iload_n 2, 1) := by decide +kernel
theorem dX5_combine_41 : decode cX5_combine 41 = .ok (.iconst 1, 1) := by decide +kernel
theorem dX5_combine_42 : decode cX5_combine 42 = .ok (.invokevirtual 43, 3) := by decide +kernel
theorem dX5_combine_45 : decode cX5_combine 45 = .ok (.iconst 1, 1) := by decide +kernel
theorem dX5_combine_46 : decode cX5_combine 46 = .ok (.if_icmp .ne 6, 3) := by decide +kernel
theorem dX5_combine_49 : decode cX5_combine 49 = .ok (.bipush (-4), 2) := by decide +kernel
theorem dX5_combine_51 : decode cX5_combine 51 = .ok (.ireturn, 1) := by decide +kernel
theorem dX5_combine_52 : decode cX5_combine 52 = .ok (.aload_n 0, 1) := by decide +kernel
theorem dX5_combine_53 : decode cX5_combine 53 = .ok (.aload_n 0, 1) := by decide +kernel
theorem dX5_combine_54 : decode cX5_combine 54 = .ok (.getfield 7, 3) := by decide +kernel
theorem dX5_combine_57 : decode cX5_combine 57 = .ok (.invokevirtual 88, 3) := by decide +kernel
theorem dX5_combine_60 : decode cX5_combine 60 = .ok (.aload_n 0, 1) := by decide +kernel
theorem dX5_combine_61 : decode cX5_combine 61 = .ok (.iload_n 1, 1) := by decide +kernel
theorem dX5_combine_62 : decode cX5_combine 62 = .ok (.iload_n 3, 1) := by decide +kernel
theorem dX5_combine_63 : decode cX5_combine 63 = .ok (.iload 4, 2) := by decide +kernel
theorem dX5_combine_65 : decode cX5_combine 65 = .ok (.invokevirtual 133, 3) := by decide +kernel
theorem dX5_combine_68 : decode cX5_combine 68 = .ok (.istore 5, 2) := by decide +kernel
theorem dX5_combine_70 : decode cX5_combine 70 = .ok (.iconst 0, 1) := by decide +kernel
theorem dX5_combine_71 : decode cX5_combine 71 = .ok (.istore 6, 2) := by decide +kernel
theorem dX5_combine_73 : decode cX5_combine 73 = .ok (.iload 6, 2) := by decide +kernel
theorem dX5_combine_75 : decode cX5_combine 75 = .ok (.bipush 64, 2) := by decide +kernel
theorem dX5_combine_77 : decode cX5_combine 77 = .ok (.if_icmp .ge 26, 3) := by decide +kernel
theorem dX5_combine_80 : decode cX5_combine 80 = .ok (.aload_n 0, 1) := by decide +kernel
theorem dX5_combine_81 : decode cX5_combine 81 = .ok (.iload_n 2, 1) := by decide +kernel
theorem dX5_combine_82 : decode cX5_combine 82 = .ok (.bipush 11, 2) := by decide +kernel
theorem dX5_combine_84 : decode cX5_combine 84 = .ok (.iload 6, 2) := by decide +kernel
theorem dX5_combine_86 : decode cX5_combine 86 = .ok (.iadd, 1) := by decide +kernel
theorem dX5_combine_87 : decode cX5_combine 87 = .ok (.aload_n 0, 1) := by decide +kernel
theorem dX5_combine_88 : decode cX5_combine 88 = .ok (.getfield 25, 3) := by decide +kernel
theorem dX5_combine_91 : decode cX5_combine 91 = .ok (.iload 6, 2) := by decide +kernel
theorem dX5_combine_93 : decode cX5_combine 93 = .ok (.iaload, 1) := by decide +kernel
theorem dX5_combine_94 : decode cX5_combine 94 = .ok (.invokevirtual 47, 3) := by decide +kernel
theorem dX5_combine_97 : decode cX5_combine 97 = .ok (.iinc 6 1, 3) := by decide +kernel
theorem dX5_combine_100 : decode cX5_combine 100 = .ok (.goto (-27), 3) := by decide +kernel
theorem dX5_combine_103 : decode cX5_combine 103 = .ok (.iconst 0, 1) := by decide +kernel
theorem dX5_combine_104 : decode cX5_combine 104 = .ok (.istore 6, 2) := by decide +kernel
theorem dX5_combine_106 : decode cX5_combine 106 = .ok (.iload 6, 2) := by decide +kernel
theorem dX5_combine_108 : decode cX5_combine 108 = .ok (.bipush 8, 2) := by decide +kernel
theorem dX5_combine_110 : decode cX5_combine 110 = .ok (.if_icmp .ge 41, 3) := by decide +kernel
theorem dX5_combine_113 : decode cX5_combine 113 = .ok (.aload_n 0, 1) := by decide +kernel
theorem dX5_combine_114 : decode cX5_combine 114 = .ok (.iload_n 2, 1) := by decide +kernel
theorem dX5_combine_115 : decode cX5_combine 115 = .ok (.iconst 3, 1) := by decide +kernel
theorem dX5_combine_116 : decode cX5_combine 116 = .ok (.iload 6, 2) := by decide +kernel
theorem dX5_combine_118 : decode cX5_combine 118 = .ok (.iadd, 1) := by decide +kernel
theorem dX5_combine_119 : decode cX5_combine 119 = .ok (.aload_n 0, 1) := by decide +kernel
theorem dX5_combine_120 : decode cX5_combine 120 = .ok (.iload_n 2, 1) := by decide +kernel
theorem dX5_combine_121 : decode cX5_combine 121 = .ok (.iload 6, 2) := by decide +kernel
theorem dX5_combine_123 : decode cX5_combine 123 = .ok (.invokevirtual 65, 3) := by decide +kernel
theorem dX5_combine_126 : decode cX5_combine 126 = .ok (.ifCond .ne 7, 3) := by decide +kernel
theorem dX5_combine_129 : decode cX5_combine 129 = .ok (.iconst 0, 1) := by decide +kernel
theorem dX5_combine_130 : decode cX5_combine 130 = .ok (.goto 12, 3) := by decide +kernel
theorem dX5_combine_133 : decode cX5_combine 133 = .ok (.aload_n 0, 1) := by decide +kernel
theorem dX5_combine_134 : decode cX5_combine 134 = .ok (.iload_n 2, 1) := by decide +kernel
theorem dX5_combine_135 : decode cX5_combine 135 = .ok (.iload 6, 2) := by decide +kernel
theorem dX5_combine_137 : decode cX5_combine 137 = .ok (.invokevirtual 74, 3) := by decide +kernel
theorem dX5_combine_140 : decode cX5_combine 140 = .ok (.iconst 1, 1) := by decide +kernel
theorem dX5_combine_141 : decode cX5_combine 141 = .ok (.iadd, 1) := by decide +kernel
theorem dX5_combine_142 : decode cX5_combine 142 = .ok (.invokevirtual 47, 3) := by decide +kernel
theorem dX5_combine_145 : decode cX5_combine 145 = .ok (.iinc 6 1, 3) := by decide +kernel
theorem dX5_combine_148 : decode cX5_combine 148 = .ok (.goto (-42), 3) := by decide +kernel
theorem dX5_combine_151 : decode cX5_combine 151 = .ok (.iload 5, 2) := by decide +kernel
theorem dX5_combine_153 : decode cX5_combine 153 = .ok (.ireturn, 1) := by decide +kernel
theorem dX5_type_0 : decode cX5_type 0 = .ok (.aload_n 0, 1) := by decide +kernel
theorem dX5_type_1 : decode cX5_type 1 = .ok (.getfield 136, 3) := by decide +kernel
theorem dX5_type_4 : decode cX5_type 4 = .ok (.bipush 60, 2) := by decide +kernel
theorem dX5_type_6 : decode cX5_type 6 = .ok (.if_icmp .ne 6, 3) := by decide +kernel
theorem dX5_type_9 : decode cX5_type 9 = .ok (.bipush (-3), 2) := by decide +kernel
theorem dX5_type_11 : decode cX5_type 11 = .ok (.ireturn, 1) := by decide +kernel
theorem dX5_type_12 : decode cX5_type 12 = .ok (.aload_n 0, 1) := by decide +kernel
theorem dX5_type_13 : decode cX5_type 13 = .ok (.getfield 22, 3) := by decide +kernel
theorem dX5_type_16 : decode cX5_type 16 = .ok (.aload_n 0, 1) := by decide +kernel
theorem dX5_type_17 : decode cX5_type 17 = .ok (.getfield 136, 3) := by decide +kernel
theorem dX5_type_20 : decode cX5_type 20 = .ok (.iload_n 1, 1) := by decide +kernel
theorem dX5_type_21 : decode cX5_type 21 = .ok (.iastore, 1) := by decide +kernel
theorem dX5_type_22 : decode cX5_type 22 = .ok (.aload_n 0, 1) := by decide +kernel
theorem dX5_type_23 : decode cX5_type 23 = .ok (.dup, 1) := by decide +kernel
theorem dX5_type_24 : decode cX5_type 24 = .ok (.getfield 136, 3) := by decide +kernel
theorem dX5_type_27 : decode cX5_type 27 = .ok (.iconst 1, 1) := by decide +kernel
theorem dX5_type_28 : decode cX5_type 28 = .ok (.iadd, 1) := by decide +kernel
theorem dX5_type_29 : decode cX5_type 29 = .ok (.putfield 136, 3) := by decide +kernel
theorem dX5_type_32 : decode cX5_type 32 = .ok (.aload_n 0, 1) := by decide +kernel
theorem dX5_type_33 : decode cX5_type 33 = .ok (.getfield 136, 3) := by decide +kernel
theorem dX5_type_36 : decode cX5_type 36 = .ok (.ireturn, 1) := by decide +kernel
theorem dX5_clearText_0 : decode cX5_clearText 0 = .ok (.aload_n 0, 1) := by decide +kernel
theorem dX5_clearText_1 : decode cX5_clearText 1 = .ok (.getfield 136, 3) := by decide +kernel
theorem dX5_clearText_4 : decode cX5_clearText 4 = .ok (.istore_n 1, 1) := by decide +kernel
theorem dX5_clearText_5 : decode cX5_clearText 5 = .ok (.aload_n 0, 1) := by decide +kernel
theorem dX5_clearText_6 : decode cX5_clearText 6 = .ok (.iconst 0, 1) := by decide +kernel
theorem dX5_clearText_7 : decode cX5_clearText 7 = .ok (.putfield 136, 3) := by decide +kernel
theorem dX5_clearText_10 : decode cX5_clearText 10 = .ok (.iload_n 1, 1) := by decide +kernel
theorem dX5_clearText_11 : decode cX5_clearText 11 = .ok (.ireturn, 1) := by decide +kernel
theorem dX5_signAt_0 : decode cX5_signAt 0 = .ok (.iload_n 1, 1) := by decide +kernel
theorem dX5_signAt_1 : decode cX5_signAt 1 = .ok (.aload_n 0, 1) := by decide +kernel
theorem dX5_signAt_2 : decode cX5_signAt 2 = .ok (.getfield 136, 3) := by decide +kernel
theorem dX5_signAt_5 : decode cX5_signAt 5 = .ok (.if_icmp .ge 12, 3) := by decide +kernel
theorem dX5_signAt_8 : decode cX5_signAt 8 = .ok (.aload_n 0, 1) := by decide +kernel
theorem dX5_signAt_9 : decode cX5_signAt 9 = .ok (.getfield 22, 3) := by decide +kernel
theorem dX5_signAt_12 : decode cX5_signAt 12 = .ok (.iload_n 1, 1) := by decide +kernel
theorem dX5_signAt_13 : decode cX5_signAt 13 = .ok (.iaload, 1) := by decide +kernel
theorem dX5_signAt_14 : decode cX5_signAt 14 = .ok (.goto 5, 3) := by decide +kernel
theorem dX5_signAt_17 : decode cX5_signAt 17 = .ok (.bipush (-5), 2) := by decide +kernel
theorem dX5_signAt_19 : decode cX5_signAt 19 = .ok (.ireturn, 1) := by decide +kernel
set_option maxRecDepth 20000 in
theorem ggX5_readsNumber_X5_signAt : GoodIn wsX5_readsNumber wsX5_signAt := goodIn_r _ [6, 7, 8, 12, 13, 14, 15, 16, 17, 18, 19, 20, 21, 22, 23, 24] (by decide +kernel) (by decide +kernel)
set_option maxRecDepth 20000 in
theorem gX5_readsNumber_X5_signAt : GoodIn wsX5_readsNumber (wsV RX5 142 RX5 yX5_signAt wsX5_signAt) := goodIn_app (goodIn_of _ (by decide +kernel)) ggX5_readsNumber_X5_signAt
set_option maxRecDepth 20000 in
theorem ggX5_readsNumber_X5_in : GoodIn wsX5_readsNumber wsX5_in := goodIn_r _ [11] (by decide +kernel) (by decide +kernel)
set_option maxRecDepth 20000 in
theorem gX5_readsNumber_X5_in : GoodIn wsX5_readsNumber (va_wsS RX5 39 yX5_in wsX5_in) := goodIn_app (goodIn_of _ (by decide +kernel)) ggX5_readsNumber_X5_in
theorem dX5_readsNumber_0 : decode cX5_readsNumber 0 = .ok (.aload_n 0, 1) := by decide +kernel
theorem dX5_readsNumber_1 : decode cX5_readsNumber 1 = .ok (.aload_n 0, 1) := by decide +kernel
theorem dX5_readsNumber_2 : decode cX5_readsNumber 2 = .ok (.getfield 139, 3) := by decide +kernel
theorem dX5_readsNumber_5 : decode cX5_readsNumber 5 = .ok (.invokevirtual 142, 3) := by decide +kernel
theorem dX5_readsNumber_8 : decode cX5_readsNumber 8 = .ok (.bipush 48, 2) := by decide +kernel
theorem dX5_readsNumber_10 : decode cX5_readsNumber 10 = .ok (.bipush 57, 2) := by decide +kernel
theorem dX5_readsNumber_12 : decode cX5_readsNumber 12 = .ok (.invokestatic 39, 3) := by decide +kernel
theorem dX5_readsNumber_15 : decode cX5_readsNumber 15 = .ok (.ifCond .ne 5, 3) := by decide +kernel
theorem dX5_readsNumber_18 : decode cX5_readsNumber 18 = .ok (.iconst (-1), 1) := by decide +kernel
theorem dX5_readsNumber_19 : decode cX5_readsNumber 19 = .ok (.ireturn, 1) := by decide +kernel
theorem dX5_readsNumber_20 : decode cX5_readsNumber 20 = .ok (.aload_n 0, 1) := by decide +kernel
theorem dX5_readsNumber_21 : decode cX5_readsNumber 21 = .ok (.aload_n 0, 1) := by decide +kernel
theorem dX5_readsNumber_22 : decode cX5_readsNumber 22 = .ok (.getfield 139, 3) := by decide +kernel
theorem dX5_readsNumber_25 : decode cX5_readsNumber 25 = .ok (.invokevirtual 142, 3) := by decide +kernel
theorem dX5_readsNumber_28 : decode cX5_readsNumber 28 = .ok (.bipush 48, 2) := by decide +kernel
theorem dX5_readsNumber_30 : decode cX5_readsNumber 30 = .ok (.isub, 1) := by decide +kernel
theorem dX5_readsNumber_31 : decode cX5_readsNumber 31 = .ok (.istore_n 1, 1) := by decide +kernel
theorem dX5_readsNumber_32 : decode cX5_readsNumber 32 = .ok (.aload_n 0, 1) := by decide +kernel
theorem dX5_readsNumber_33 : decode cX5_readsNumber 33 = .ok (.dup, 1) := by decide +kernel
theorem dX5_readsNumber_34 : decode cX5_readsNumber 34 = .ok (.getfield 139, 3) := by decide +kernel
theorem dX5_readsNumber_37 : decode cX5_readsNumber 37 = .ok (.iconst 1, 1) := by decide +kernel
theorem dX5_readsNumber_38 : decode cX5_readsNumber 38 = .ok (.iadd, 1) := by decide +kernel
theorem dX5_readsNumber_39 : decode cX5_readsNumber 39 = .ok (.putfield 139, 3) := by decide +kernel
theorem dX5_readsNumber_42 : decode cX5_readsNumber 42 = .ok (.iconst 0, 1) := by decide +kernel
theorem dX5_readsNumber_43 : decode cX5_readsNumber 43 = .ok (.istore_n 2, 1) := by decide +kernel
theorem dX5_readsNumber_44 : decode cX5_readsNumber 44 = .ok (.iload_n 2, 1) := by decide +kernel
theorem dX5_readsNumber_45 : decode cX5_readsNumber 45 = .ok (.iconst 3, 1) := by decide +kernel
theorem dX5_readsNumber_46 : decode cX5_readsNumber 46 = .ok (.if_icmp .ge 58, 3) := by decide +kernel
theorem dX5_readsNumber_49 : decode cX5_readsNumber 49 = .ok (.iload_n 1, 1) := by decide +kernel
theorem dX5_readsNumber_50 : decode cX5_readsNumber 50 = .ok (.ifCond .le 54, 3) := by decide +kernel
theorem dX5_readsNumber_53 : decode cX5_readsNumber 53 = .ok (.aload_n 0, 1) := by decide +kernel
theorem dX5_readsNumber_54 : decode cX5_readsNumber 54 = .ok (.aload_n 0, 1) := by decide +kernel
theorem dX5_readsNumber_55 : decode cX5_readsNumber 55 = .ok (.getfield 139, 3) := by decide +kernel
theorem dX5_readsNumber_58 : decode cX5_readsNumber 58 = .ok (.invokevirtual 142, 3) := by decide +kernel
theorem dX5_readsNumber_61 : decode cX5_readsNumber 61 = .ok (.bipush 48, 2) := by decide +kernel
theorem dX5_readsNumber_63 : decode cX5_readsNumber 63 = .ok (.bipush 57, 2) := by decide +kernel
theorem dX5_readsNumber_65 : decode cX5_readsNumber 65 = .ok (.invokestatic 39, 3) := by decide +kernel
theorem dX5_readsNumber_68 : decode cX5_readsNumber 68 = .ok (.ifCond .eq 36, 3) := by decide +kernel
theorem dX5_readsNumber_71 : decode cX5_readsNumber 71 = .ok (.bipush 10, 2) := by decide +kernel
theorem dX5_readsNumber_73 : decode cX5_readsNumber 73 = .ok (.iload_n 1, 1) := by decide +kernel
theorem dX5_readsNumber_74 : decode cX5_readsNumber 74 = .ok (.imul, 1) := by decide +kernel
theorem dX5_readsNumber_75 : decode cX5_readsNumber 75 = .ok (.aload_n 0, 1) := by decide +kernel
theorem dX5_readsNumber_76 : decode cX5_readsNumber 76 = .ok (.aload_n 0, 1) := by decide +kernel
theorem dX5_readsNumber_77 : decode cX5_readsNumber 77 = .ok (.getfield 139, 3) := by decide +kernel
theorem dX5_readsNumber_80 : decode cX5_readsNumber 80 = .ok (.invokevirtual 142, 3) := by decide +kernel
theorem dX5_readsNumber_83 : decode cX5_readsNumber 83 = .ok (.iadd, 1) := by decide +kernel
theorem dX5_readsNumber_84 : decode cX5_readsNumber 84 = .ok (.bipush 48, 2) := by decide +kernel
theorem dX5_readsNumber_86 : decode cX5_readsNumber 86 = .ok (.isub, 1) := by decide +kernel
theorem dX5_readsNumber_87 : decode cX5_readsNumber 87 = .ok (.istore_n 1, 1) := by decide +kernel
theorem dX5_readsNumber_88 : decode cX5_readsNumber 88 = .ok (.aload_n 0, 1) := by decide +kernel
theorem dX5_readsNumber_89 : decode cX5_readsNumber 89 = .ok (.dup, 1) := by decide +kernel
theorem dX5_readsNumber_90 : decode cX5_readsNumber 90 = .ok (.getfield 139, 3) := by decide +kernel
theorem dX5_readsNumber_93 : decode cX5_readsNumber 93 = .ok (.iconst 1, 1) := by decide +kernel
theorem dX5_readsNumber_94 : decode cX5_readsNumber 94 = .ok (.iadd, 1) := by decide +kernel
theorem dX5_readsNumber_95 : decode cX5_readsNumber 95 = .ok (.putfield 139, 3) := by decide +kernel
theorem dX5_readsNumber_98 : decode cX5_readsNumber 98 = .ok (.iinc 2 1, 3) := by decide +kernel
theorem dX5_readsNumber_101 : decode cX5_readsNumber 101 = .ok (.goto (-57), 3) := by decide +kernel
theorem dX5_readsNumber_104 : decode cX5_readsNumber 104 = .ok (.iload_n 1, 1) := by decide +kernel
theorem dX5_readsNumber_105 : decode cX5_readsNumber 105 = .ok (.ireturn, 1) := by decide +kernel
set_option maxRecDepth 20000 in
theorem ggX5_faultOf_X5_readsNumber : GoodIn wsX5_faultOf wsX5_readsNumber := goodIn_r _ [9, 1, 10, 11, 12, 8, 13, 4, 14, 15, 16, 17, 18, 19, 20, 21, 22, 23, 24, 25, 26, 27, 28, 29, 30] (by decide +kernel) (by decide +kernel)
set_option maxRecDepth 20000 in
theorem gX5_faultOf_X5_readsNumber : GoodIn wsX5_faultOf (wsV RX5 148 RX5 yX5_readsNumber wsX5_readsNumber) := goodIn_app (goodIn_of _ (by decide +kernel)) ggX5_faultOf_X5_readsNumber
set_option maxRecDepth 20000 in
theorem ggX5_faultOf_X5_signAt : GoodIn wsX5_faultOf wsX5_signAt := goodIn_r _ [13, 4, 14, 18, 19, 20, 21, 22, 23, 24, 25, 26, 27, 28, 29, 30] (by decide +kernel) (by decide +kernel)
set_option maxRecDepth 20000 in
theorem gX5_faultOf_X5_signAt : GoodIn wsX5_faultOf (wsV RX5 142 RX5 yX5_signAt wsX5_signAt) := goodIn_app (goodIn_of _ (by decide +kernel)) ggX5_faultOf_X5_signAt
theorem dX5_faultOf_0 : decode cX5_faultOf 0 = .ok (.aload_n 0, 1) := by decide +kernel
theorem dX5_faultOf_1 : decode cX5_faultOf 1 = .ok (.iconst 0, 1) := by decide +kernel
theorem dX5_faultOf_2 : decode cX5_faultOf 2 = .ok (.putfield 139, 3) := by decide +kernel
theorem dX5_faultOf_5 : decode cX5_faultOf 5 = .ok (.aload_n 0, 1) := by decide +kernel
theorem dX5_faultOf_6 : decode cX5_faultOf 6 = .ok (.iconst 0, 1) := by decide +kernel
theorem dX5_faultOf_7 : decode cX5_faultOf 7 = .ok (.putfield 145, 3) := by decide +kernel
theorem dX5_faultOf_10 : decode cX5_faultOf 10 = .ok (.iconst 1, 1) := by decide +kernel
theorem dX5_faultOf_11 : decode cX5_faultOf 11 = .ok (.istore_n 1, 1) := by decide +kernel
theorem dX5_faultOf_12 : decode cX5_faultOf 12 = .ok (.iload_n 1, 1) := by decide +kernel
theorem dX5_faultOf_13 : decode cX5_faultOf 13 = .ok (.ifCond .eq 152, 3) := by decide +kernel
theorem dX5_faultOf_16 : decode cX5_faultOf 16 = .ok (.aload_n 0, 1) := by decide +kernel
theorem dX5_faultOf_17 : decode cX5_faultOf 17 = .ok (.invokevirtual 148, 3) := by decide +kernel
theorem dX5_faultOf_20 : decode cX5_faultOf 20 = .ok (.istore_n 2, 1) := by decide +kernel
theorem dX5_faultOf_21 : decode cX5_faultOf 21 = .ok (.iload_n 2, 1) := by decide +kernel
theorem dX5_faultOf_22 : decode cX5_faultOf 22 = .ok (.ifCond .ge 8, 3) := by decide +kernel
theorem dX5_faultOf_25 : decode cX5_faultOf 25 = .ok (.aload_n 0, 1) := by decide +kernel
theorem dX5_faultOf_26 : decode cX5_faultOf 26 = .ok (.getfield 139, 3) := by decide +kernel
theorem dX5_faultOf_29 : decode cX5_faultOf 29 = .ok (.ireturn, 1) := by decide +kernel
theorem dX5_faultOf_30 : decode cX5_faultOf 30 = .ok (.iload_n 2, 1) := by decide +kernel
theorem dX5_faultOf_31 : decode cX5_faultOf 31 = .ok (.istore_n 3, 1) := by decide +kernel
theorem dX5_faultOf_32 : decode cX5_faultOf 32 = .ok (.aload_n 0, 1) := by decide +kernel
theorem dX5_faultOf_33 : decode cX5_faultOf 33 = .ok (.aload_n 0, 1) := by decide +kernel
theorem dX5_faultOf_34 : decode cX5_faultOf 34 = .ok (.getfield 139, 3) := by decide +kernel
theorem dX5_faultOf_37 : decode cX5_faultOf 37 = .ok (.invokevirtual 142, 3) := by decide +kernel
theorem dX5_faultOf_40 : decode cX5_faultOf 40 = .ok (.bipush 45, 2) := by decide +kernel
theorem dX5_faultOf_42 : decode cX5_faultOf 42 = .ok (.if_icmp .ne 18, 3) := by decide +kernel
theorem dX5_faultOf_45 : decode cX5_faultOf 45 = .ok (.aload_n 0, 1) := by decide +kernel
theorem dX5_faultOf_46 : decode cX5_faultOf 46 = .ok (.dup, 1) := by decide +kernel
theorem dX5_faultOf_47 : decode cX5_faultOf 47 = .ok (.getfield 139, 3) := by decide +kernel
theorem dX5_faultOf_50 : decode cX5_faultOf 50 = .ok (.iconst 1, 1) := by decide +kernel
theorem dX5_faultOf_51 : decode cX5_faultOf 51 = .ok (.iadd, 1) := by decide +kernel
theorem dX5_faultOf_52 : decode cX5_faultOf 52 = .ok (.putfield 139, 3) := by decide +kernel
theorem dX5_faultOf_55 : decode cX5_faultOf 55 = .ok (.aload_n 0, 1) := by decide +kernel
theorem dX5_faultOf_56 : decode cX5_faultOf 56 = .ok (.invokevirtual 148, 3) := by decide +kernel
theorem dX5_faultOf_59 : decode cX5_faultOf 59 = .ok (.istore_n 3, 1) := by decide +kernel
theorem dX5_faultOf_60 : decode cX5_faultOf 60 = .ok (.iload_n 3, 1) := by decide +kernel
theorem dX5_faultOf_61 : decode cX5_faultOf 61 = .ok (.ifCond .ge 8, 3) := by decide +kernel
theorem dX5_faultOf_64 : decode cX5_faultOf 64 = .ok (.aload_n 0, 1) := by decide +kernel
theorem dX5_faultOf_65 : decode cX5_faultOf 65 = .ok (.getfield 139, 3) := by decide +kernel
theorem dX5_faultOf_68 : decode cX5_faultOf 68 = .ok (.ireturn, 1) := by decide +kernel
theorem dX5_faultOf_69 : decode cX5_faultOf 69 = .ok (.aload_n 0, 1) := by decide +kernel
theorem dX5_faultOf_70 : decode cX5_faultOf 70 = .ok (.getfield 28, 3) := by decide +kernel
theorem dX5_faultOf_73 : decode cX5_faultOf 73 = .ok (.iconst 2, 1) := by decide +kernel
theorem dX5_faultOf_74 : decode cX5_faultOf 74 = .ok (.aload_n 0, 1) := by decide +kernel
theorem dX5_faultOf_75 : decode cX5_faultOf 75 = .ok (.getfield 145, 3) := by decide +kernel
theorem dX5_faultOf_78 : decode cX5_faultOf 78 = .ok (.imul, 1) := by decide +kernel
theorem dX5_faultOf_79 : decode cX5_faultOf 79 = .ok (.iload_n 2, 1) := by decide +kernel
theorem dX5_faultOf_80 : decode cX5_faultOf 80 = .ok (.iastore, 1) := by decide +kernel
theorem dX5_faultOf_81 : decode cX5_faultOf 81 = .ok (.aload_n 0, 1) := by decide +kernel
theorem dX5_faultOf_82 : decode cX5_faultOf 82 = .ok (.getfield 28, 3) := by decide +kernel
theorem dX5_faultOf_85 : decode cX5_faultOf 85 = .ok (.iconst 2, 1) := by decide +kernel
theorem dX5_faultOf_86 : decode cX5_faultOf 86 = .ok (.aload_n 0, 1) := by decide +kernel
theorem dX5_faultOf_87 : decode cX5_faultOf 87 = .ok (.getfield 145, 3) := by decide +kernel
theorem dX5_faultOf_90 : decode cX5_faultOf 90 = .ok (.imul, 1) := by decide +kernel
theorem dX5_faultOf_91 : decode cX5_faultOf 91 = .ok (.iconst 1, 1) := by decide +kernel
theorem dX5_faultOf_92 : decode cX5_faultOf 92 = .ok (.iadd, 1) := by decide +kernel
theorem dX5_faultOf_93 : decode cX5_faultOf 93 = .ok (.iload_n 3, 1) := by decide +kernel
theorem dX5_faultOf_94 : decode cX5_faultOf 94 = .ok (.iastore, 1) := by decide +kernel
theorem dX5_faultOf_95 : decode cX5_faultOf 95 = .ok (.aload_n 0, 1) := by decide +kernel
theorem dX5_faultOf_96 : decode cX5_faultOf 96 = .ok (.dup, 1) := by decide +kernel
theorem dX5_faultOf_97 : decode cX5_faultOf 97 = .ok (.getfield 145, 3) := by decide +kernel
theorem dX5_faultOf_100 : decode cX5_faultOf 100 = .ok (.iconst 1, 1) := by decide +kernel
theorem dX5_faultOf_101 : decode cX5_faultOf 101 = .ok (.iadd, 1) := by decide +kernel
theorem dX5_faultOf_102 : decode cX5_faultOf 102 = .ok (.putfield 145, 3) := by decide +kernel
theorem dX5_faultOf_105 : decode cX5_faultOf 105 = .ok (.aload_n 0, 1) := by decide +kernel
theorem dX5_faultOf_106 : decode cX5_faultOf 106 = .ok (.getfield 139, 3) := by decide +kernel
theorem dX5_faultOf_109 : decode cX5_faultOf 109 = .ok (.aload_n 0, 1) := by decide +kernel
theorem dX5_faultOf_110 : decode cX5_faultOf 110 = .ok (.getfield 136, 3) := by decide +kernel
theorem dX5_faultOf_113 : decode cX5_faultOf 113 = .ok (.if_icmp .ge 7, 3) := by decide +kernel
theorem dX5_faultOf_116 : decode cX5_faultOf 116 = .ok (.iconst 1, 1) := by decide +kernel
theorem dX5_faultOf_117 : decode cX5_faultOf 117 = .ok (.goto 4, 3) := by decide +kernel
theorem dX5_faultOf_120 : decode cX5_faultOf 120 = .ok (.iconst 0, 1) := by decide +kernel
theorem dX5_faultOf_121 : decode cX5_faultOf 121 = .ok (.istore_n 1, 1) := by decide +kernel
theorem dX5_faultOf_122 : decode cX5_faultOf 122 = .ok (.iload_n 1, 1) := by decide +kernel
theorem dX5_faultOf_123 : decode cX5_faultOf 123 = .ok (.ifCond .eq 21, 3) := by decide +kernel
theorem dX5_faultOf_126 : decode cX5_faultOf 126 = .ok (.aload_n 0, 1) := by decide +kernel
theorem dX5_faultOf_127 : decode cX5_faultOf 127 = .ok (.aload_n 0, 1) := by decide +kernel
theorem dX5_faultOf_128 : decode cX5_faultOf 128 = .ok (.getfield 139, 3) := by decide +kernel
theorem dX5_faultOf_131 : decode cX5_faultOf 131 = .ok (.invokevirtual 142, 3) := by decide +kernel
theorem dX5_faultOf_134 : decode cX5_faultOf 134 = .ok (.bipush 44, 2) := by decide +kernel
theorem dX5_faultOf_136 : decode cX5_faultOf 136 = .ok (.if_icmp .eq 8, 3) := by decide +kernel
theorem dX5_faultOf_139 : decode cX5_faultOf 139 = .ok (.aload_n 0, 1) := by decide +kernel
theorem dX5_faultOf_140 : decode cX5_faultOf 140 = .ok (.getfield 139, 3) := by decide +kernel
theorem dX5_faultOf_143 : decode cX5_faultOf 143 = .ok (.ireturn, 1) := by decide +kernel
theorem dX5_faultOf_144 : decode cX5_faultOf 144 = .ok (.aload_n 0, 1) := by decide +kernel
theorem dX5_faultOf_145 : decode cX5_faultOf 145 = .ok (.dup, 1) := by decide +kernel
theorem dX5_faultOf_146 : decode cX5_faultOf 146 = .ok (.getfield 139, 3) := by decide +kernel
theorem dX5_faultOf_149 : decode cX5_faultOf 149 = .ok (.iload_n 1, 1) := by decide +kernel
theorem dX5_faultOf_150 : decode cX5_faultOf 150 = .ok (.ifCond .eq 7, 3) := by decide +kernel
theorem dX5_faultOf_153 : decode cX5_faultOf 153 = .ok (.iconst 1, 1) := by decide +kernel
theorem dX5_faultOf_154 : decode cX5_faultOf 154 = .ok (.goto 4, 3) := by decide +kernel
theorem dX5_faultOf_157 : decode cX5_faultOf 157 = .ok (.iconst 0, 1) := by decide +kernel
theorem dX5_faultOf_158 : decode cX5_faultOf 158 = .ok (.iadd, 1) := by decide +kernel
theorem dX5_faultOf_159 : decode cX5_faultOf 159 = .ok (.putfield 139, 3) := by decide +kernel
theorem dX5_faultOf_162 : decode cX5_faultOf 162 = .ok (.goto (-150), 3) := by decide +kernel
theorem dX5_faultOf_165 : decode cX5_faultOf 165 = .ok (.bipush (-5), 2) := by decide +kernel
theorem dX5_faultOf_167 : decode cX5_faultOf 167 = .ok (.ireturn, 1) := by decide +kernel
set_option maxRecDepth 20000 in
theorem ggX5_readRanges_X5_isSet : GoodIn wsX5_readRanges wsX5_isSet := goodIn_r _ [9, 3, 10, 11, 8, 12, 101, 102, 103, 104, 105, 106, 107, 108, 109, 110, 111, 112, 113] (by decide +kernel) (by decide +kernel)
set_option maxRecDepth 20000 in
theorem gX5_readRanges_X5_isSet : GoodIn wsX5_readRanges (wsV RX5 92 RX5 yX5_isSet wsX5_isSet) := goodIn_app (goodIn_of _ (by decide +kernel)) ggX5_readRanges_X5_isSet
set_option maxRecDepth 20000 in
theorem ggX5_readRanges_X5_faultOf : GoodIn wsX5_readRanges wsX5_faultOf := goodIn_r _ [16, 17, 1, 2, 18, 19, 20, 21, 8, 22, 23, 24, 25, 26, 27, 10, 11, 12, 101, 102, 103, 104, 105, 106, 107, 108, 109, 110, 111, 112, 113] (by decide +kernel) (by decide +kernel)
set_option maxRecDepth 20000 in
theorem gX5_readRanges_X5_faultOf : GoodIn wsX5_readRanges (wsV RX5 152 RX5 yX5_faultOf wsX5_faultOf) := goodIn_app (goodIn_of _ (by decide +kernel)) ggX5_readRanges_X5_faultOf
set_option maxRecDepth 20000 in
theorem ggX5_readRanges_X5_isNumber : GoodIn wsX5_readRanges wsX5_isNumber := goodIn_r _ [30, 10, 11, 8, 12] (by decide +kernel) (by decide +kernel)
set_option maxRecDepth 20000 in
theorem gX5_readRanges_X5_isNumber : GoodIn wsX5_readRanges (va_wsS RX5 112 yX5_isNumber wsX5_isNumber) := goodIn_app (goodIn_of _ (by decide +kernel)) ggX5_readRanges_X5_isNumber
set_option maxRecDepth 20000 in
theorem ggX5_readRanges_X5_in : GoodIn wsX5_readRanges wsX5_in := goodIn_r _ [12] (by decide +kernel) (by decide +kernel)
set_option maxRecDepth 20000 in
theorem gX5_readRanges_X5_in : GoodIn wsX5_readRanges (va_wsS RX5 39 yX5_in wsX5_in) := goodIn_app (goodIn_of _ (by decide +kernel)) ggX5_readRanges_X5_in
set_option maxRecDepth 20000 in
theorem ggX5_readRanges_X5_copies : GoodIn wsX5_readRanges wsX5_copies := goodIn_r _ [33] (by decide +kernel) (by decide +kernel)
set_option maxRecDepth 20000 in
theorem gX5_readRanges_X5_copies : GoodIn wsX5_readRanges (va_wsS RX5 35 yX5_copies wsX5_copies) := goodIn_app (goodIn_of _ (by decide +kernel)) ggX5_readRanges_X5_copies
set_option maxRecDepth 20000 in
theorem ggX5_readRanges_X5_goesAll : GoodIn wsX5_readRanges wsX5_goesAll := goodIn_r _ [37, 38, 39, 40, 8, 41, 42, 43, 44, 45, 3, 46, 47, 48, 49, 50, 51, 52, 53, 54, 55, 56, 57, 58, 59, 60, 61, 62, 63, 64, 65, 66, 67, 68, 69, 70, 71, 72, 73, 74, 75, 76, 77, 78, 79, 80, 81, 82, 83, 84, 85, 86, 87, 88, 89, 90, 101, 102, 103, 104, 105, 106, 107, 108, 109, 110, 111, 112, 113] (by decide +kernel) (by decide +kernel)
set_option maxRecDepth 20000 in
theorem gX5_readRanges_X5_goesAll : GoodIn wsX5_readRanges (wsV RX5 119 RX5 yX5_goesAll wsX5_goesAll) := goodIn_app (goodIn_of _ (by decide +kernel)) ggX5_readRanges_X5_goesAll
set_option maxRecDepth 20000 in
theorem ggX5_readRanges_X5_ends : GoodIn wsX5_readRanges wsX5_ends := goodIn_r _ [94, 4, 3, 31, 32, 8, 33, 95, 96, 97, 98, 99, 100, 101, 102, 103, 104, 105, 106, 107, 108, 109, 110, 111, 112, 113] (by decide +kernel) (by decide +kernel)
set_option maxRecDepth 20000 in
theorem gX5_readRanges_X5_ends : GoodIn wsX5_readRanges (wsV RX5 123 RX5 yX5_ends wsX5_ends) := goodIn_app (goodIn_of _ (by decide +kernel)) ggX5_readRanges_X5_ends
theorem dX5_readRanges_0 : decode cX5_readRanges 0 = .ok (.aload_n 0, 1) := by decide +kernel
theorem dX5_readRanges_1 : decode cX5_readRanges 1 = .ok (.iload_n 1, 1) := by decide +kernel
theorem dX5_readRanges_2 : decode cX5_readRanges 2 = .ok (.invokevirtual 92, 3) := by decide +kernel
theorem dX5_readRanges_5 : decode cX5_readRanges 5 = .ok (.ifCond .ne 5, 3) := by decide +kernel
theorem dX5_readRanges_8 : decode cX5_readRanges 8 = .ok (.iconst (-1), 1) := by decide +kernel
theorem dX5_readRanges_9 : decode cX5_readRanges 9 = .ok (.ireturn, 1) := by decide +kernel
theorem dX5_readRanges_10 : decode cX5_readRanges 10 = .ok (.aload_n 0, 1) := by decide +kernel
theorem dX5_readRanges_11 : decode cX5_readRanges 11 = .ok (.invokevirtual 152, 3) := by decide +kernel
theorem dX5_readRanges_14 : decode cX5_readRanges 14 = .ok (.istore_n 2, 1) := by decide +kernel
theorem dX5_readRanges_15 : decode cX5_readRanges 15 = .ok (.iload_n 2, 1) := by decide +kernel
theorem dX5_readRanges_16 : decode cX5_readRanges 16 = .ok (.bipush (-5), 2) := by decide +kernel
theorem dX5_readRanges_18 : decode cX5_readRanges 18 = .ok (.if_icmp .eq 8, 3) := by decide +kernel
theorem dX5_readRanges_21 : decode cX5_readRanges 21 = .ok (.bipush (-100), 2) := by decide +kernel
theorem dX5_readRanges_23 : decode cX5_readRanges 23 = .ok (.iload_n 2, 1) := by decide +kernel
theorem dX5_readRanges_24 : decode cX5_readRanges 24 = .ok (.isub, 1) := by decide +kernel
theorem dX5_readRanges_25 : decode cX5_readRanges 25 = .ok (.ireturn, 1) := by decide +kernel
theorem dX5_readRanges_26 : decode cX5_readRanges 26 = .ok (.iconst 0, 1) := by decide +kernel
theorem dX5_readRanges_27 : decode cX5_readRanges 27 = .ok (.istore_n 3, 1) := by decide +kernel
theorem dX5_readRanges_28 : decode cX5_readRanges 28 = .ok (.iload_n 3, 1) := by decide +kernel
theorem dX5_readRanges_29 : decode cX5_readRanges 29 = .ok (.aload_n 0, 1) := by decide +kernel
theorem dX5_readRanges_30 : decode cX5_readRanges 30 = .ok (.getfield 145, 3) := by decide +kernel
theorem dX5_readRanges_33 : decode cX5_readRanges 33 = .ok (.if_icmp .ge 53, 3) := by decide +kernel
theorem dX5_readRanges_36 : decode cX5_readRanges 36 = .ok (.aload_n 0, 1) := by decide +kernel
theorem dX5_readRanges_37 : decode cX5_readRanges 37 = .ok (.getfield 28, 3) := by decide +kernel
theorem dX5_readRanges_40 : decode cX5_readRanges 40 = .ok (.iconst 2, 1) := by decide +kernel
theorem dX5_readRanges_41 : decode cX5_readRanges 41 = .ok (.iload_n 3, 1) := by decide +kernel
theorem dX5_readRanges_42 : decode cX5_readRanges 42 = .ok (.imul, 1) := by decide +kernel
theorem dX5_readRanges_43 : decode cX5_readRanges 43 = .ok (.iaload, 1) := by decide +kernel
theorem dX5_readRanges_44 : decode cX5_readRanges 44 = .ok (.invokestatic 112, 3) := by decide +kernel
theorem dX5_readRanges_47 : decode cX5_readRanges 47 = .ok (.ifCond .eq 30, 3) := by decide +kernel
theorem dX5_readRanges_50 : decode cX5_readRanges 50 = .ok (.aload_n 0, 1) := by decide +kernel
theorem dX5_readRanges_51 : decode cX5_readRanges 51 = .ok (.getfield 28, 3) := by decide +kernel
theorem dX5_readRanges_54 : decode cX5_readRanges 54 = .ok (.iconst 2, 1) := by decide +kernel
theorem dX5_readRanges_55 : decode cX5_readRanges 55 = .ok (.iload_n 3, 1) := by decide +kernel
theorem dX5_readRanges_56 : decode cX5_readRanges 56 = .ok (.imul, 1) := by decide +kernel
theorem dX5_readRanges_57 : decode cX5_readRanges 57 = .ok (.iconst 1, 1) := by decide +kernel
theorem dX5_readRanges_58 : decode cX5_readRanges 58 = .ok (.iadd, 1) := by decide +kernel
theorem dX5_readRanges_59 : decode cX5_readRanges 59 = .ok (.iaload, 1) := by decide +kernel
theorem dX5_readRanges_60 : decode cX5_readRanges 60 = .ok (.aload_n 0, 1) := by decide +kernel
theorem dX5_readRanges_61 : decode cX5_readRanges 61 = .ok (.getfield 28, 3) := by decide +kernel
theorem dX5_readRanges_64 : decode cX5_readRanges 64 = .ok (.iconst 2, 1) := by decide +kernel
theorem dX5_readRanges_65 : decode cX5_readRanges 65 = .ok (.iload_n 3, 1) := by decide +kernel
theorem dX5_readRanges_66 : decode cX5_readRanges 66 = .ok (.imul, 1) := by decide +kernel
theorem dX5_readRanges_67 : decode cX5_readRanges 67 = .ok (.iaload, 1) := by decide +kernel
theorem dX5_readRanges_68 : decode cX5_readRanges 68 = .ok (.sipush 2047, 3) := by decide +kernel
theorem dX5_readRanges_71 : decode cX5_readRanges 71 = .ok (.invokestatic 39, 3) := by decide +kernel
theorem dX5_readRanges_74 : decode cX5_readRanges 74 = .ok (.ifCond .ne 6, 3) := by decide +kernel
theorem dX5_readRanges_77 : decode cX5_readRanges 77 = .ok (.bipush (-2), 2) := by decide +kernel
theorem dX5_readRanges_79 : decode cX5_readRanges 79 = .ok (.ireturn, 1) := by decide +kernel
theorem dX5_readRanges_80 : decode cX5_readRanges 80 = .ok (.iinc 3 1, 3) := by decide +kernel
theorem dX5_readRanges_83 : decode cX5_readRanges 83 = .ok (.goto (-55), 3) := by decide +kernel
theorem dX5_readRanges_86 : decode cX5_readRanges 86 = .ok (.aload_n 0, 1) := by decide +kernel
theorem dX5_readRanges_87 : decode cX5_readRanges 87 = .ok (.getfield 7, 3) := by decide +kernel
theorem dX5_readRanges_90 : decode cX5_readRanges 90 = .ok (.iconst 0, 1) := by decide +kernel
theorem dX5_readRanges_91 : decode cX5_readRanges 91 = .ok (.aload_n 0, 1) := by decide +kernel
theorem dX5_readRanges_92 : decode cX5_readRanges 92 = .ok (.getfield 19, 3) := by decide +kernel
theorem dX5_readRanges_95 : decode cX5_readRanges 95 = .ok (.iconst 0, 1) := by decide +kernel
theorem dX5_readRanges_96 : decode cX5_readRanges 96 = .ok (.invokestatic 35, 3) := by decide +kernel
theorem dX5_readRanges_99 : decode cX5_readRanges 99 = .ok (.iconst 0, 1) := by decide +kernel
theorem dX5_readRanges_100 : decode cX5_readRanges 100 = .ok (.istore_n 3, 1) := by decide +kernel
theorem dX5_readRanges_101 : decode cX5_readRanges 101 = .ok (.iconst 0, 1) := by decide +kernel
theorem dX5_readRanges_102 : decode cX5_readRanges 102 = .ok (.istore 4, 2) := by decide +kernel
theorem dX5_readRanges_104 : decode cX5_readRanges 104 = .ok (.iload 4, 2) := by decide +kernel
theorem dX5_readRanges_106 : decode cX5_readRanges 106 = .ok (.aload_n 0, 1) := by decide +kernel
theorem dX5_readRanges_107 : decode cX5_readRanges 107 = .ok (.getfield 145, 3) := by decide +kernel
theorem dX5_readRanges_110 : decode cX5_readRanges 110 = .ok (.if_icmp .ge 55, 3) := by decide +kernel
theorem dX5_readRanges_113 : decode cX5_readRanges 113 = .ok (.iload_n 3, 1) := by decide +kernel
theorem dX5_readRanges_114 : decode cX5_readRanges 114 = .ok (.ifCond .lt 51, 3) := by decide +kernel
theorem dX5_readRanges_117 : decode cX5_readRanges 117 = .ok (.aload_n 0, 1) := by decide +kernel
theorem dX5_readRanges_118 : decode cX5_readRanges 118 = .ok (.iload_n 1, 1) := by decide +kernel
theorem dX5_readRanges_119 : decode cX5_readRanges 119 = .ok (.aload_n 0, 1) := by decide +kernel
theorem dX5_readRanges_120 : decode cX5_readRanges 120 = .ok (.getfield 28, 3) := by decide +kernel
theorem dX5_readRanges_123 : decode cX5_readRanges 123 = .ok (.iconst 2, 1) := by decide +kernel
theorem dX5_readRanges_124 : decode cX5_readRanges 124 = .ok (.iload 4, 2) := by decide +kernel
theorem dX5_readRanges_126 : decode cX5_readRanges 126 = .ok (.imul, 1) := by decide +kernel
theorem dX5_readRanges_127 : decode cX5_readRanges 127 = .ok (.iaload, 1) := by decide +kernel
theorem dX5_readRanges_128 : decode cX5_readRanges 128 = .ok (.aload_n 0, 1) := by decide +kernel
theorem dX5_readRanges_129 : decode cX5_readRanges 129 = .ok (.getfield 28, 3) := by decide +kernel
theorem dX5_readRanges_132 : decode cX5_readRanges 132 = .ok (.iconst 2, 1) := by decide +kernel
theorem dX5_readRanges_133 : decode cX5_readRanges 133 = .ok (.iload 4, 2) := by decide +kernel
theorem dX5_readRanges_135 : decode cX5_readRanges 135 = .ok (.imul, 1) := by decide +kernel
theorem dX5_readRanges_136 : decode cX5_readRanges 136 = .ok (.iconst 1, 1) := by decide +kernel
theorem dX5_readRanges_137 : decode cX5_readRanges 137 = .ok (.iadd, 1) := by decide +kernel
theorem dX5_readRanges_138 : decode cX5_readRanges 138 = .ok (.iaload, 1) := by decide +kernel
theorem dX5_readRanges_139 : decode cX5_readRanges 139 = .ok (.iconst 1, 1) := by decide +kernel
theorem dX5_readRanges_140 : decode cX5_readRanges 140 = .ok (.invokevirtual 119, 3) := by decide +kernel
theorem dX5_readRanges_143 : decode cX5_readRanges 143 = .ok (.istore 5, 2) := by decide +kernel
theorem dX5_readRanges_145 : decode cX5_readRanges 145 = .ok (.iload 5, 2) := by decide +kernel
theorem dX5_readRanges_147 : decode cX5_readRanges 147 = .ok (.ifCond .ge 7, 3) := by decide +kernel
theorem dX5_readRanges_150 : decode cX5_readRanges 150 = .ok (.iconst (-1), 1) := by decide +kernel
theorem dX5_readRanges_151 : decode cX5_readRanges 151 = .ok (.goto 7, 3) := by decide +kernel
theorem dX5_readRanges_154 : decode cX5_readRanges 154 = .ok (.iload_n 3, 1) := by decide +kernel
theorem dX5_readRanges_155 : decode cX5_readRanges 155 = .ok (.iload 5, 2) := by decide +kernel
theorem dX5_readRanges_157 : decode cX5_readRanges 157 = .ok (.iadd, 1) := by decide +kernel
theorem dX5_readRanges_158 : decode cX5_readRanges 158 = .ok (.istore_n 3, 1) := by decide +kernel
theorem dX5_readRanges_159 : decode cX5_readRanges 159 = .ok (.iinc 4 1, 3) := by decide +kernel
theorem dX5_readRanges_162 : decode cX5_readRanges 162 = .ok (.goto (-58), 3) := by decide +kernel
theorem dX5_readRanges_165 : decode cX5_readRanges 165 = .ok (.aload_n 0, 1) := by decide +kernel
theorem dX5_readRanges_166 : decode cX5_readRanges 166 = .ok (.iload_n 3, 1) := by decide +kernel
theorem dX5_readRanges_167 : decode cX5_readRanges 167 = .ok (.invokevirtual 123, 3) := by decide +kernel
theorem dX5_readRanges_170 : decode cX5_readRanges 170 = .ok (.ireturn, 1) := by decide +kernel
set_option maxRecDepth 20000 in
theorem ggX5_undo_X5_copies : GoodIn wsX5_undo wsX5_copies := goodIn_r _ [7] (by decide +kernel) (by decide +kernel)
set_option maxRecDepth 20000 in
theorem gX5_undo_X5_copies : GoodIn wsX5_undo (va_wsS RX5 35 yX5_copies wsX5_copies) := goodIn_app (goodIn_of _ (by decide +kernel)) ggX5_undo_X5_copies
theorem dX5_undo_0 : decode cX5_undo 0 = .ok (.aload_n 0, 1) := by decide +kernel
theorem dX5_undo_1 : decode cX5_undo 1 = .ok (.getfield 31, 3) := by decide +kernel
theorem dX5_undo_4 : decode cX5_undo 4 = .ok (.ifCond .ne 6, 3) := by decide +kernel
theorem dX5_undo_7 : decode cX5_undo 7 = .ok (.bipush (-5), 2) := by decide +kernel
theorem dX5_undo_9 : decode cX5_undo 9 = .ok (.ireturn, 1) := by decide +kernel
theorem dX5_undo_10 : decode cX5_undo 10 = .ok (.aload_n 0, 1) := by decide +kernel
theorem dX5_undo_11 : decode cX5_undo 11 = .ok (.dup, 1) := by decide +kernel
theorem dX5_undo_12 : decode cX5_undo 12 = .ok (.getfield 31, 3) := by decide +kernel
theorem dX5_undo_15 : decode cX5_undo 15 = .ok (.iconst 1, 1) := by decide +kernel
theorem dX5_undo_16 : decode cX5_undo 16 = .ok (.isub, 1) := by decide +kernel
theorem dX5_undo_17 : decode cX5_undo 17 = .ok (.putfield 31, 3) := by decide +kernel
theorem dX5_undo_20 : decode cX5_undo 20 = .ok (.aload_n 0, 1) := by decide +kernel
theorem dX5_undo_21 : decode cX5_undo 21 = .ok (.getfield 13, 3) := by decide +kernel
theorem dX5_undo_24 : decode cX5_undo 24 = .ok (.aload_n 0, 1) := by decide +kernel
theorem dX5_undo_25 : decode cX5_undo 25 = .ok (.getfield 31, 3) := by decide +kernel
theorem dX5_undo_28 : decode cX5_undo 28 = .ok (.sipush 451, 3) := by decide +kernel
theorem dX5_undo_31 : decode cX5_undo 31 = .ok (.imul, 1) := by decide +kernel
theorem dX5_undo_32 : decode cX5_undo 32 = .ok (.aload_n 0, 1) := by decide +kernel
theorem dX5_undo_33 : decode cX5_undo 33 = .ok (.getfield 7, 3) := by decide +kernel
theorem dX5_undo_36 : decode cX5_undo 36 = .ok (.iconst 0, 1) := by decide +kernel
theorem dX5_undo_37 : decode cX5_undo 37 = .ok (.invokestatic 35, 3) := by decide +kernel
theorem dX5_undo_40 : decode cX5_undo 40 = .ok (.aload_n 0, 1) := by decide +kernel
theorem dX5_undo_41 : decode cX5_undo 41 = .ok (.getfield 31, 3) := by decide +kernel
theorem dX5_undo_44 : decode cX5_undo 44 = .ok (.ireturn, 1) := by decide +kernel
set_option maxRecDepth 20000 in
theorem ggX5_keep_X5_copies : GoodIn wsX5_keep wsX5_copies := goodIn_r _ [7] (by decide +kernel) (by decide +kernel)
set_option maxRecDepth 20000 in
theorem gX5_keep_X5_copies : GoodIn wsX5_keep (va_wsS RX5 35 yX5_copies wsX5_copies) := goodIn_app (goodIn_of _ (by decide +kernel)) ggX5_keep_X5_copies
theorem dX5_keep_0 : decode cX5_keep 0 = .ok (.aload_n 0, 1) := by decide +kernel
theorem dX5_keep_1 : decode cX5_keep 1 = .ok (.getfield 7, 3) := by decide +kernel
theorem dX5_keep_4 : decode cX5_keep 4 = .ok (.iconst 0, 1) := by decide +kernel
theorem dX5_keep_5 : decode cX5_keep 5 = .ok (.aload_n 0, 1) := by decide +kernel
theorem dX5_keep_6 : decode cX5_keep 6 = .ok (.getfield 16, 3) := by decide +kernel
theorem dX5_keep_9 : decode cX5_keep 9 = .ok (.iconst 0, 1) := by decide +kernel
theorem dX5_keep_10 : decode cX5_keep 10 = .ok (.invokestatic 35, 3) := by decide +kernel
theorem dX5_keep_13 : decode cX5_keep 13 = .ok (.aload_n 0, 1) := by decide +kernel
theorem dX5_keep_14 : decode cX5_keep 14 = .ok (.iconst 1, 1) := by decide +kernel
theorem dX5_keep_15 : decode cX5_keep 15 = .ok (.putfield 155, 3) := by decide +kernel
theorem dX5_keep_18 : decode cX5_keep 18 = .ok (.aload_n 0, 1) := by decide +kernel
theorem dX5_keep_19 : decode cX5_keep 19 = .ok (.getfield 7, 3) := by decide +kernel
theorem dX5_keep_22 : decode cX5_keep 22 = .ok (.iconst 0, 1) := by decide +kernel
theorem dX5_keep_23 : decode cX5_keep 23 = .ok (.iaload, 1) := by decide +kernel
theorem dX5_keep_24 : decode cX5_keep 24 = .ok (.ireturn, 1) := by decide +kernel
set_option maxRecDepth 20000 in
theorem ggX5_restore_X5_records : GoodIn wsX5_restore wsX5_records := goodIn_r _ [8, 9, 10, 11, 12, 7, 13, 14, 15, 16, 17, 18, 19, 20, 21, 22, 23, 24, 25, 26] (by decide +kernel) (by decide +kernel)
set_option maxRecDepth 20000 in
theorem gX5_restore_X5_records : GoodIn wsX5_restore (wsV RX5 88 RX5 yX5_records wsX5_records) := goodIn_app (goodIn_of _ (by decide +kernel)) ggX5_restore_X5_records
set_option maxRecDepth 20000 in
theorem ggX5_restore_X5_copies : GoodIn wsX5_restore wsX5_copies := goodIn_r _ [13] (by decide +kernel) (by decide +kernel)
set_option maxRecDepth 20000 in
theorem gX5_restore_X5_copies : GoodIn wsX5_restore (va_wsS RX5 35 yX5_copies wsX5_copies) := goodIn_app (goodIn_of _ (by decide +kernel)) ggX5_restore_X5_copies
theorem dX5_restore_0 : decode cX5_restore 0 = .ok (.aload_n 0, 1) := by decide +kernel
theorem dX5_restore_1 : decode cX5_restore 1 = .ok (.getfield 155, 3) := by decide +kernel
theorem dX5_restore_4 : decode cX5_restore 4 = .ok (.ifCond .ne 6, 3) := by decide +kernel
theorem dX5_restore_7 : decode cX5_restore 7 = .ok (.bipush (-5), 2) := by decide +kernel
theorem dX5_restore_9 : decode cX5_restore 9 = .ok (.ireturn, 1) := by decide +kernel
theorem dX5_restore_10 : decode cX5_restore 10 = .ok (.aload_n 0, 1) := by decide +kernel
theorem dX5_restore_11 : decode cX5_restore 11 = .ok (.aload_n 0, 1) := by decide +kernel
theorem dX5_restore_12 : decode cX5_restore 12 = .ok (.getfield 7, 3) := by decide +kernel
theorem dX5_restore_15 : decode cX5_restore 15 = .ok (.invokevirtual 88, 3) := by decide +kernel
theorem dX5_restore_18 : decode cX5_restore 18 = .ok (.aload_n 0, 1) := by decide +kernel
theorem dX5_restore_19 : decode cX5_restore 19 = .ok (.getfield 16, 3) := by decide +kernel
theorem dX5_restore_22 : decode cX5_restore 22 = .ok (.iconst 0, 1) := by decide +kernel
theorem dX5_restore_23 : decode cX5_restore 23 = .ok (.aload_n 0, 1) := by decide +kernel
theorem dX5_restore_24 : decode cX5_restore 24 = .ok (.getfield 7, 3) := by decide +kernel
theorem dX5_restore_27 : decode cX5_restore 27 = .ok (.iconst 0, 1) := by decide +kernel
theorem dX5_restore_28 : decode cX5_restore 28 = .ok (.invokestatic 35, 3) := by decide +kernel
theorem dX5_restore_31 : decode cX5_restore 31 = .ok (.aload_n 0, 1) := by decide +kernel
theorem dX5_restore_32 : decode cX5_restore 32 = .ok (.getfield 7, 3) := by decide +kernel
theorem dX5_restore_35 : decode cX5_restore 35 = .ok (.iconst 0, 1) := by decide +kernel
theorem dX5_restore_36 : decode cX5_restore 36 = .ok (.iaload, 1) := by decide +kernel
theorem dX5_restore_37 : decode cX5_restore 37 = .ok (.ireturn, 1) := by decide +kernel
set_option maxRecDepth 20000 in
theorem ggX5_has_X5_isSet : GoodIn wsX5_has wsX5_isSet := goodIn_r _ [5, 6, 7, 8, 4, 9, 21, 22, 23, 24, 25, 26, 27, 28, 29, 30, 31, 32, 33] (by decide +kernel) (by decide +kernel)
set_option maxRecDepth 20000 in
theorem gX5_has_X5_isSet : GoodIn wsX5_has (wsV RX5 92 RX5 yX5_isSet wsX5_isSet) := goodIn_app (goodIn_of _ (by decide +kernel)) ggX5_has_X5_isSet
set_option maxRecDepth 20000 in
theorem ggX5_has_X5_isNumber : GoodIn wsX5_has wsX5_isNumber := goodIn_r _ [12, 7, 8, 4, 9] (by decide +kernel) (by decide +kernel)
set_option maxRecDepth 20000 in
theorem gX5_has_X5_isNumber : GoodIn wsX5_has (va_wsS RX5 112 yX5_isNumber wsX5_isNumber) := goodIn_app (goodIn_of _ (by decide +kernel)) ggX5_has_X5_isNumber
set_option maxRecDepth 20000 in
theorem ggX5_has_X5_isIn : GoodIn wsX5_has wsX5_isIn := goodIn_r _ [16, 17, 18, 19, 4, 20, 6, 21, 22, 23, 24, 25, 26, 27, 28, 29, 30, 31, 32, 33] (by decide +kernel) (by decide +kernel)
set_option maxRecDepth 20000 in
theorem gX5_has_X5_isIn : GoodIn wsX5_has (wsV RX5 51 RX5 yX5_isIn wsX5_isIn) := goodIn_app (goodIn_of _ (by decide +kernel)) ggX5_has_X5_isIn
theorem dX5_has_0 : decode cX5_has 0 = .ok (.aload_n 0, 1) := by decide +kernel
theorem dX5_has_1 : decode cX5_has 1 = .ok (.iload_n 1, 1) := by decide +kernel
theorem dX5_has_2 : decode cX5_has 2 = .ok (.invokevirtual 92, 3) := by decide +kernel
theorem dX5_has_5 : decode cX5_has 5 = .ok (.ifCond .ne 7, 3) := by decide +kernel
theorem dX5_has_8 : decode cX5_has 8 = .ok (.iconst (-1), 1) := by decide +kernel
theorem dX5_has_9 : decode cX5_has 9 = .ok (.goto 29, 3) := by decide +kernel
theorem dX5_has_12 : decode cX5_has 12 = .ok (.iload_n 2, 1) := by decide +kernel
theorem dX5_has_13 : decode cX5_has 13 = .ok (.invokestatic 112, 3) := by decide +kernel
theorem dX5_has_16 : decode cX5_has 16 = .ok (.ifCond .ne 8, 3) := by decide +kernel
theorem dX5_has_19 : decode cX5_has 19 = .ok (.bipush (-2), 2) := by decide +kernel
theorem dX5_has_21 : decode cX5_has 21 = .ok (.goto 17, 3) := by decide +kernel
theorem dX5_has_24 : decode cX5_has 24 = .ok (.aload_n 0, 1) := by decide +kernel
theorem dX5_has_25 : decode cX5_has 25 = .ok (.iload_n 1, 1) := by decide +kernel
theorem dX5_has_26 : decode cX5_has 26 = .ok (.iload_n 2, 1) := by decide +kernel
theorem dX5_has_27 : decode cX5_has 27 = .ok (.invokevirtual 51, 3) := by decide +kernel
theorem dX5_has_30 : decode cX5_has 30 = .ok (.ifCond .eq 7, 3) := by decide +kernel
theorem dX5_has_33 : decode cX5_has 33 = .ok (.iconst 1, 1) := by decide +kernel
theorem dX5_has_34 : decode cX5_has 34 = .ok (.goto 4, 3) := by decide +kernel
theorem dX5_has_37 : decode cX5_has 37 = .ok (.iconst 0, 1) := by decide +kernel
theorem dX5_has_38 : decode cX5_has 38 = .ok (.ireturn, 1) := by decide +kernel
set_option maxRecDepth 20000 in
theorem ggX5_rankOf_X5_isIn : GoodIn wsX5_rankOf wsX5_isIn := goodIn_r _ [5, 6, 7, 8, 4, 9, 10, 11, 12, 13, 14, 15, 16, 17, 18, 19, 20, 21, 22, 23] (by decide +kernel) (by decide +kernel)
set_option maxRecDepth 20000 in
theorem gX5_rankOf_X5_isIn : GoodIn wsX5_rankOf (wsV RX5 51 RX5 yX5_isIn wsX5_isIn) := goodIn_app (goodIn_of _ (by decide +kernel)) ggX5_rankOf_X5_isIn
theorem dX5_rankOf_0 : decode cX5_rankOf 0 = .ok (.iconst 0, 1) := by decide +kernel
theorem dX5_rankOf_1 : decode cX5_rankOf 1 = .ok (.istore_n 3, 1) := by decide +kernel
theorem dX5_rankOf_2 : decode cX5_rankOf 2 = .ok (.iconst 0, 1) := by decide +kernel
theorem dX5_rankOf_3 : decode cX5_rankOf 3 = .ok (.istore 4, 2) := by decide +kernel
theorem dX5_rankOf_5 : decode cX5_rankOf 5 = .ok (.iload 4, 2) := by decide +kernel
theorem dX5_rankOf_7 : decode cX5_rankOf 7 = .ok (.iload_n 2, 1) := by decide +kernel
theorem dX5_rankOf_8 : decode cX5_rankOf 8 = .ok (.if_icmp .ge 27, 3) := by decide +kernel
theorem dX5_rankOf_11 : decode cX5_rankOf 11 = .ok (.iload_n 3, 1) := by decide +kernel
theorem dX5_rankOf_12 : decode cX5_rankOf 12 = .ok (.aload_n 0, 1) := by decide +kernel
theorem dX5_rankOf_13 : decode cX5_rankOf 13 = .ok (.iload_n 1, 1) := by decide +kernel
theorem dX5_rankOf_14 : decode cX5_rankOf 14 = .ok (.iload 4, 2) := by decide +kernel
theorem dX5_rankOf_16 : decode cX5_rankOf 16 = .ok (.invokevirtual 51, 3) := by decide +kernel
theorem dX5_rankOf_19 : decode cX5_rankOf 19 = .ok (.ifCond .eq 7, 3) := by decide +kernel
theorem dX5_rankOf_22 : decode cX5_rankOf 22 = .ok (.iconst 1, 1) := by decide +kernel
theorem dX5_rankOf_23 : decode cX5_rankOf 23 = .ok (.goto 4, 3) := by decide +kernel
theorem dX5_rankOf_26 : decode cX5_rankOf 26 = .ok (.iconst 0, 1) := by decide +kernel
theorem dX5_rankOf_27 : decode cX5_rankOf 27 = .ok (.iadd, 1) := by decide +kernel
theorem dX5_rankOf_28 : decode cX5_rankOf 28 = .ok (.istore_n 3, 1) := by decide +kernel
theorem dX5_rankOf_29 : decode cX5_rankOf 29 = .ok (.iinc 4 1, 3) := by decide +kernel
theorem dX5_rankOf_32 : decode cX5_rankOf 32 = .ok (.goto (-27), 3) := by decide +kernel
theorem dX5_rankOf_35 : decode cX5_rankOf 35 = .ok (.iload_n 3, 1) := by decide +kernel
theorem dX5_rankOf_36 : decode cX5_rankOf 36 = .ok (.ireturn, 1) := by decide +kernel
set_option maxRecDepth 20000 in
theorem ggX5_firstFrom_X5_isNumber : GoodIn wsX5_firstFrom wsX5_isNumber := goodIn_r _ [4, 5, 6, 3, 7] (by decide +kernel) (by decide +kernel)
set_option maxRecDepth 20000 in
theorem gX5_firstFrom_X5_isNumber : GoodIn wsX5_firstFrom (va_wsS RX5 112 yX5_isNumber wsX5_isNumber) := goodIn_app (goodIn_of _ (by decide +kernel)) ggX5_firstFrom_X5_isNumber
set_option maxRecDepth 20000 in
theorem ggX5_firstFrom_X5_isIn : GoodIn wsX5_firstFrom wsX5_isIn := goodIn_r _ [11, 12, 13, 14, 3, 15, 16, 17, 18, 19, 20, 21, 22, 23, 24, 25, 26, 27, 28, 29] (by decide +kernel) (by decide +kernel)
set_option maxRecDepth 20000 in
theorem gX5_firstFrom_X5_isIn : GoodIn wsX5_firstFrom (wsV RX5 51 RX5 yX5_isIn wsX5_isIn) := goodIn_app (goodIn_of _ (by decide +kernel)) ggX5_firstFrom_X5_isIn
theorem dX5_firstFrom_0 : decode cX5_firstFrom 0 = .ok (.iload_n 2, 1) := by decide +kernel
theorem dX5_firstFrom_1 : decode cX5_firstFrom 1 = .ok (.istore 4, 2) := by decide +kernel
theorem dX5_firstFrom_3 : decode cX5_firstFrom 3 = .ok (.iload 4, 2) := by decide +kernel
theorem dX5_firstFrom_5 : decode cX5_firstFrom 5 = .ok (.invokestatic 112, 3) := by decide +kernel
theorem dX5_firstFrom_8 : decode cX5_firstFrom 8 = .ok (.ifCond .eq 25, 3) := by decide +kernel
theorem dX5_firstFrom_11 : decode cX5_firstFrom 11 = .ok (.aload_n 0, 1) := by decide +kernel
theorem dX5_firstFrom_12 : decode cX5_firstFrom 12 = .ok (.iload_n 1, 1) := by decide +kernel
theorem dX5_firstFrom_13 : decode cX5_firstFrom 13 = .ok (.iload 4, 2) := by decide +kernel
theorem dX5_firstFrom_15 : decode cX5_firstFrom 15 = .ok (.invokevirtual 51, 3) := by decide +kernel
theorem dX5_firstFrom_18 : decode cX5_firstFrom 18 = .ok (.ifCond .eq 6, 3) := by decide +kernel
theorem dX5_firstFrom_21 : decode cX5_firstFrom 21 = .ok (.iload 4, 2) := by decide +kernel
theorem dX5_firstFrom_23 : decode cX5_firstFrom 23 = .ok (.ireturn, 1) := by decide +kernel
theorem dX5_firstFrom_24 : decode cX5_firstFrom 24 = .ok (.iload 4, 2) := by decide +kernel
theorem dX5_firstFrom_26 : decode cX5_firstFrom 26 = .ok (.iload_n 3, 1) := by decide +kernel
theorem dX5_firstFrom_27 : decode cX5_firstFrom 27 = .ok (.iadd, 1) := by decide +kernel
theorem dX5_firstFrom_28 : decode cX5_firstFrom 28 = .ok (.istore 4, 2) := by decide +kernel
theorem dX5_firstFrom_30 : decode cX5_firstFrom 30 = .ok (.goto (-27), 3) := by decide +kernel
theorem dX5_firstFrom_33 : decode cX5_firstFrom 33 = .ok (.bipush (-5), 2) := by decide +kernel
theorem dX5_firstFrom_35 : decode cX5_firstFrom 35 = .ok (.ireturn, 1) := by decide +kernel
set_option maxRecDepth 20000 in
theorem ggX5_sumOf_X5_kindOf : GoodIn wsX5_sumOf wsX5_kindOf := goodIn_r _ [5, 6, 7, 8, 4, 9, 10, 32, 33, 34, 35, 36, 37, 38, 39, 40, 41, 42, 43, 44] (by decide +kernel) (by decide +kernel)
set_option maxRecDepth 20000 in
theorem gX5_sumOf_X5_kindOf : GoodIn wsX5_sumOf (wsV RX5 62 RX5 yX5_kindOf wsX5_kindOf) := goodIn_app (goodIn_of _ (by decide +kernel)) ggX5_sumOf_X5_kindOf
set_option maxRecDepth 20000 in
theorem ggX5_sumOf_X5_manyIn : GoodIn wsX5_sumOf wsX5_manyIn := goodIn_r _ [14, 15, 16, 17, 4, 18, 6, 7, 8, 9, 10, 32, 33, 34, 35, 36, 37, 38, 39, 40, 41, 42, 43, 44] (by decide +kernel) (by decide +kernel)
set_option maxRecDepth 20000 in
theorem gX5_sumOf_X5_manyIn : GoodIn wsX5_sumOf (wsV RX5 65 RX5 yX5_manyIn wsX5_manyIn) := goodIn_app (goodIn_of _ (by decide +kernel)) ggX5_sumOf_X5_manyIn
set_option maxRecDepth 20000 in
theorem ggX5_sumOf_X5_runsIn : GoodIn wsX5_sumOf wsX5_runsIn := goodIn_r _ [22, 15, 16, 17, 4, 18, 6, 7, 8, 9, 10, 32, 33, 34, 35, 36, 37, 38, 39, 40, 41, 42, 43, 44] (by decide +kernel) (by decide +kernel)
set_option maxRecDepth 20000 in
theorem gX5_sumOf_X5_runsIn : GoodIn wsX5_sumOf (wsV RX5 68 RX5 yX5_runsIn wsX5_runsIn) := goodIn_app (goodIn_of _ (by decide +kernel)) ggX5_sumOf_X5_runsIn
set_option maxRecDepth 20000 in
theorem ggX5_sumOf_X5_units : GoodIn wsX5_sumOf wsX5_units := goodIn_r _ [25] (by decide +kernel) (by decide +kernel)
set_option maxRecDepth 20000 in
theorem gX5_sumOf_X5_units : GoodIn wsX5_sumOf (va_wsS RX5 58 yX5_units wsX5_units) := goodIn_app (goodIn_of _ (by decide +kernel)) ggX5_sumOf_X5_units
set_option maxRecDepth 20000 in
theorem ggX5_sumOf_X5_best : GoodIn wsX5_sumOf wsX5_best := goodIn_r _ [28, 29, 30, 4, 31, 23, 24, 25] (by decide +kernel) (by decide +kernel)
set_option maxRecDepth 20000 in
theorem gX5_sumOf_X5_best : GoodIn wsX5_sumOf (va_wsS RX5 71 yX5_best wsX5_best) := goodIn_app (goodIn_of _ (by decide +kernel)) ggX5_sumOf_X5_best
theorem dX5_sumOf_0 : decode cX5_sumOf 0 = .ok (.iconst 0, 1) := by decide +kernel
theorem dX5_sumOf_1 : decode cX5_sumOf 1 = .ok (.istore_n 3, 1) := by decide +kernel
theorem dX5_sumOf_2 : decode cX5_sumOf 2 = .ok (.iconst 0, 1) := by decide +kernel
theorem dX5_sumOf_3 : decode cX5_sumOf 3 = .ok (.istore 4, 2) := by decide +kernel
theorem dX5_sumOf_5 : decode cX5_sumOf 5 = .ok (.iload 4, 2) := by decide +kernel
theorem dX5_sumOf_7 : decode cX5_sumOf 7 = .ok (.bipush 8, 2) := by decide +kernel
theorem dX5_sumOf_9 : decode cX5_sumOf 9 = .ok (.if_icmp .ge 87, 3) := by decide +kernel
theorem dX5_sumOf_12 : decode cX5_sumOf 12 = .ok (.aload_n 0, 1) := by decide +kernel
theorem dX5_sumOf_13 : decode cX5_sumOf 13 = .ok (.iload_n 1, 1) := by decide +kernel
theorem dX5_sumOf_14 : decode cX5_sumOf 14 = .ok (.iload 4, 2) := by decide +kernel
theorem dX5_sumOf_16 : decode cX5_sumOf 16 = .ok (.invokevirtual 62, 3) := by decide +kernel
theorem dX5_sumOf_19 : decode cX5_sumOf 19 = .ok (.ifCond .lt 71, 3) := by decide +kernel
theorem dX5_sumOf_22 : decode cX5_sumOf 22 = .ok (.aload_n 0, 1) := by decide +kernel
theorem dX5_sumOf_23 : decode cX5_sumOf 23 = .ok (.iload_n 1, 1) := by decide +kernel
theorem dX5_sumOf_24 : decode cX5_sumOf 24 = .ok (.iload 4, 2) := by decide +kernel
theorem dX5_sumOf_26 : decode cX5_sumOf 26 = .ok (.invokevirtual 65, 3) := by decide +kernel
theorem dX5_sumOf_29 : decode cX5_sumOf 29 = .ok (.istore 5, 2) := by decide +kernel
theorem dX5_sumOf_31 : decode cX5_sumOf 31 = .ok (.aload_n 0, 1) := by decide +kernel
theorem dX5_sumOf_32 : decode cX5_sumOf 32 = .ok (.iload_n 1, 1) := by decide +kernel
theorem dX5_sumOf_33 : decode cX5_sumOf 33 = .ok (.iload 4, 2) := by decide +kernel
theorem dX5_sumOf_35 : decode cX5_sumOf 35 = .ok (.invokevirtual 68, 3) := by decide +kernel
theorem dX5_sumOf_38 : decode cX5_sumOf 38 = .ok (.istore 6, 2) := by decide +kernel
theorem dX5_sumOf_40 : decode cX5_sumOf 40 = .ok (.iload_n 3, 1) := by decide +kernel
theorem dX5_sumOf_41 : decode cX5_sumOf 41 = .ok (.iload_n 2, 1) := by decide +kernel
theorem dX5_sumOf_42 : decode cX5_sumOf 42 = .ok (.iconst 2, 1) := by decide +kernel
theorem dX5_sumOf_43 : decode cX5_sumOf 43 = .ok (.if_icmp .ne 20, 3) := by decide +kernel
theorem dX5_sumOf_46 : decode cX5_sumOf 46 = .ok (.aload_n 0, 1) := by decide +kernel
theorem dX5_sumOf_47 : decode cX5_sumOf 47 = .ok (.iload_n 1, 1) := by decide +kernel
theorem dX5_sumOf_48 : decode cX5_sumOf 48 = .ok (.iload 4, 2) := by decide +kernel
theorem dX5_sumOf_50 : decode cX5_sumOf 50 = .ok (.invokevirtual 62, 3) := by decide +kernel
theorem dX5_sumOf_53 : decode cX5_sumOf 53 = .ok (.iload 5, 2) := by decide +kernel
theorem dX5_sumOf_55 : decode cX5_sumOf 55 = .ok (.iload 6, 2) := by decide +kernel
theorem dX5_sumOf_57 : decode cX5_sumOf 57 = .ok (.invokestatic 58, 3) := by decide +kernel
theorem dX5_sumOf_60 : decode cX5_sumOf 60 = .ok (.goto 28, 3) := by decide +kernel
theorem dX5_sumOf_63 : decode cX5_sumOf 63 = .ok (.iload_n 2, 1) := by decide +kernel
theorem dX5_sumOf_64 : decode cX5_sumOf 64 = .ok (.bipush 6, 2) := by decide +kernel
theorem dX5_sumOf_66 : decode cX5_sumOf 66 = .ok (.if_icmp .ne 8, 3) := by decide +kernel
theorem dX5_sumOf_69 : decode cX5_sumOf 69 = .ok (.iload 6, 2) := by decide +kernel
theorem dX5_sumOf_71 : decode cX5_sumOf 71 = .ok (.goto 17, 3) := by decide +kernel
theorem dX5_sumOf_74 : decode cX5_sumOf 74 = .ok (.iload 5, 2) := by decide +kernel
theorem dX5_sumOf_76 : decode cX5_sumOf 76 = .ok (.iload 6, 2) := by decide +kernel
theorem dX5_sumOf_78 : decode cX5_sumOf 78 = .ok (.invokestatic 71, 3) := by decide +kernel
theorem dX5_sumOf_81 : decode cX5_sumOf 81 = .ok (.iload 5, 2) := by decide +kernel
theorem dX5_sumOf_83 : decode cX5_sumOf 83 = .ok (.iload 6, 2) := by decide +kernel
theorem dX5_sumOf_85 : decode cX5_sumOf 85 = .ok (.invokestatic 58, 3) := by decide +kernel
theorem dX5_sumOf_88 : decode cX5_sumOf 88 = .ok (.iadd, 1) := by decide +kernel
theorem dX5_sumOf_89 : decode cX5_sumOf 89 = .ok (.istore_n 3, 1) := by decide +kernel
theorem dX5_sumOf_90 : decode cX5_sumOf 90 = .ok (.iinc 4 1, 3) := by decide +kernel
theorem dX5_sumOf_93 : decode cX5_sumOf 93 = .ok (.goto (-88), 3) := by decide +kernel
theorem dX5_sumOf_96 : decode cX5_sumOf 96 = .ok (.iload_n 3, 1) := by decide +kernel
theorem dX5_sumOf_97 : decode cX5_sumOf 97 = .ok (.ireturn, 1) := by decide +kernel
set_option maxRecDepth 20000 in
theorem ggX5_set_X5_isSet : GoodIn wsX5_set wsX5_isSet := goodIn_r _ [5, 6, 7, 8, 4, 9, 58, 59, 60, 61, 62, 63, 64, 65, 66, 67, 68, 69, 70] (by decide +kernel) (by decide +kernel)
set_option maxRecDepth 20000 in
theorem gX5_set_X5_isSet : GoodIn wsX5_set (wsV RX5 92 RX5 yX5_isSet wsX5_isSet) := goodIn_app (goodIn_of _ (by decide +kernel)) ggX5_set_X5_isSet
set_option maxRecDepth 20000 in
theorem ggX5_set_X5_rankOf : GoodIn wsX5_set wsX5_rankOf := goodIn_r _ [13, 14, 15, 16, 4, 17, 18, 19, 20, 21, 6, 58, 59, 60, 61, 62, 63, 64, 65, 66, 67, 68, 69, 70] (by decide +kernel) (by decide +kernel)
set_option maxRecDepth 20000 in
theorem gX5_set_X5_rankOf : GoodIn wsX5_set (wsV RX5 159 RX5 yX5_rankOf wsX5_rankOf) := goodIn_app (goodIn_of _ (by decide +kernel)) ggX5_set_X5_rankOf
set_option maxRecDepth 20000 in
theorem ggX5_set_X5_boatsOf : GoodIn wsX5_set wsX5_boatsOf := goodIn_r _ [25, 26, 27, 28, 4, 29, 18, 19, 20, 21, 6, 58, 59, 60, 61, 62, 63, 64, 65, 66, 67, 68, 69, 70] (by decide +kernel) (by decide +kernel)
set_option maxRecDepth 20000 in
theorem gX5_set_X5_boatsOf : GoodIn wsX5_set (wsV RX5 96 RX5 yX5_boatsOf wsX5_boatsOf) := goodIn_app (goodIn_of _ (by decide +kernel)) ggX5_set_X5_boatsOf
set_option maxRecDepth 20000 in
theorem ggX5_set_X5_sumOf : GoodIn wsX5_set wsX5_sumOf := goodIn_r _ [33, 26, 27, 28, 4, 29, 18, 19, 20, 21, 6, 34, 35, 36, 37, 14, 15, 16, 17, 38, 39, 40, 41, 42, 43, 44, 45, 46, 47, 48, 49, 50, 58, 59, 60, 61, 62, 63, 64, 65, 66, 67, 68, 69, 70] (by decide +kernel) (by decide +kernel)
set_option maxRecDepth 20000 in
theorem gX5_set_X5_sumOf : GoodIn wsX5_set (wsV RX5 162 RX5 yX5_sumOf wsX5_sumOf) := goodIn_app (goodIn_of _ (by decide +kernel)) ggX5_set_X5_sumOf
set_option maxRecDepth 20000 in
theorem ggX5_set_X5_of : GoodIn wsX5_set wsX5_of := goodIn_r _ [21, 6, 58, 59, 60, 61, 62, 63, 64, 65, 66, 67, 68, 69, 70] (by decide +kernel) (by decide +kernel)
set_option maxRecDepth 20000 in
theorem gX5_set_X5_of : GoodIn wsX5_set (wsV RX5 43 RX5 yX5_of wsX5_of) := goodIn_app (goodIn_of _ (by decide +kernel)) ggX5_set_X5_of
set_option maxRecDepth 20000 in
theorem ggX5_set_X5_firstFrom : GoodIn wsX5_set wsX5_firstFrom := goodIn_r _ [54, 55, 56, 4, 57, 7, 8, 9, 14, 15, 16, 17, 18, 19, 20, 21, 6, 58, 59, 60, 61, 62, 63, 64, 65, 66, 67, 68, 69, 70] (by decide +kernel) (by decide +kernel)
set_option maxRecDepth 20000 in
theorem gX5_set_X5_firstFrom : GoodIn wsX5_set (wsV RX5 165 RX5 yX5_firstFrom wsX5_firstFrom) := goodIn_app (goodIn_of _ (by decide +kernel)) ggX5_set_X5_firstFrom
theorem dX5_set_0 : decode cX5_set 0 = .ok (.aload_n 0, 1) := by decide +kernel
theorem dX5_set_1 : decode cX5_set 1 = .ok (.iload_n 1, 1) := by decide +kernel
theorem dX5_set_2 : decode cX5_set 2 = .ok (.invokevirtual 92, 3) := by decide +kernel
theorem dX5_set_5 : decode cX5_set 5 = .ok (.ifCond .ne 5, 3) := by decide +kernel
theorem dX5_set_8 : decode cX5_set 8 = .ok (.iconst (-1), 1) := by decide +kernel
theorem dX5_set_9 : decode cX5_set 9 = .ok (.ireturn, 1) := by decide +kernel
theorem dX5_set_10 : decode cX5_set 10 = .ok (.iload_n 2, 1) := by decide +kernel
theorem dX5_set_11 : decode cX5_set 11 = .ok (.tableswitch 114 0 9 #[53, 62, 68, 75, 82, 89, 68, 96, 104, 68], 53) := by decide +kernel
theorem dX5_set_64 : decode cX5_set 64 = .ok (.aload_n 0, 1) := by decide +kernel
theorem dX5_set_65 : decode cX5_set 65 = .ok (.iload_n 1, 1) := by decide +kernel
theorem dX5_set_66 : decode cX5_set 66 = .ok (.sipush 2048, 3) := by decide +kernel
theorem dX5_set_69 : decode cX5_set 69 = .ok (.invokevirtual 159, 3) := by decide +kernel
theorem dX5_set_72 : decode cX5_set 72 = .ok (.ireturn, 1) := by decide +kernel
theorem dX5_set_73 : decode cX5_set 73 = .ok (.aload_n 0, 1) := by decide +kernel
theorem dX5_set_74 : decode cX5_set 74 = .ok (.iload_n 1, 1) := by decide +kernel
theorem dX5_set_75 : decode cX5_set 75 = .ok (.invokevirtual 96, 3) := by decide +kernel
theorem dX5_set_78 : decode cX5_set 78 = .ok (.ireturn, 1) := by decide +kernel
theorem dX5_set_79 : decode cX5_set 79 = .ok (.aload_n 0, 1) := by decide +kernel
theorem dX5_set_80 : decode cX5_set 80 = .ok (.iload_n 1, 1) := by decide +kernel
theorem dX5_set_81 : decode cX5_set 81 = .ok (.iload_n 2, 1) := by decide +kernel
theorem dX5_set_82 : decode cX5_set 82 = .ok (.invokevirtual 162, 3) := by decide +kernel
theorem dX5_set_85 : decode cX5_set 85 = .ok (.ireturn, 1) := by decide +kernel
theorem dX5_set_86 : decode cX5_set 86 = .ok (.aload_n 0, 1) := by decide +kernel
theorem dX5_set_87 : decode cX5_set 87 = .ok (.iload_n 1, 1) := by decide +kernel
theorem dX5_set_88 : decode cX5_set 88 = .ok (.iconst 0, 1) := by decide +kernel
theorem dX5_set_89 : decode cX5_set 89 = .ok (.invokevirtual 43, 3) := by decide +kernel
theorem dX5_set_92 : decode cX5_set 92 = .ok (.ireturn, 1) := by decide +kernel
theorem dX5_set_93 : decode cX5_set 93 = .ok (.aload_n 0, 1) := by decide +kernel
theorem dX5_set_94 : decode cX5_set 94 = .ok (.iload_n 1, 1) := by decide +kernel
theorem dX5_set_95 : decode cX5_set 95 = .ok (.iconst 1, 1) := by decide +kernel
theorem dX5_set_96 : decode cX5_set 96 = .ok (.invokevirtual 43, 3) := by decide +kernel
theorem dX5_set_99 : decode cX5_set 99 = .ok (.ireturn, 1) := by decide +kernel
theorem dX5_set_100 : decode cX5_set 100 = .ok (.aload_n 0, 1) := by decide +kernel
theorem dX5_set_101 : decode cX5_set 101 = .ok (.iload_n 1, 1) := by decide +kernel
theorem dX5_set_102 : decode cX5_set 102 = .ok (.iconst 2, 1) := by decide +kernel
theorem dX5_set_103 : decode cX5_set 103 = .ok (.invokevirtual 43, 3) := by decide +kernel
theorem dX5_set_106 : decode cX5_set 106 = .ok (.ireturn, 1) := by decide +kernel
theorem dX5_set_107 : decode cX5_set 107 = .ok (.aload_n 0, 1) := by decide +kernel
theorem dX5_set_108 : decode cX5_set 108 = .ok (.iload_n 1, 1) := by decide +kernel
theorem dX5_set_109 : decode cX5_set 109 = .ok (.iconst 0, 1) := by decide +kernel
theorem dX5_set_110 : decode cX5_set 110 = .ok (.iconst 1, 1) := by decide +kernel
theorem dX5_set_111 : decode cX5_set 111 = .ok (.invokevirtual 165, 3) := by decide +kernel
theorem dX5_set_114 : decode cX5_set 114 = .ok (.ireturn, 1) := by decide +kernel
theorem dX5_set_115 : decode cX5_set 115 = .ok (.aload_n 0, 1) := by decide +kernel
theorem dX5_set_116 : decode cX5_set 116 = .ok (.iload_n 1, 1) := by decide +kernel
theorem dX5_set_117 : decode cX5_set 117 = .ok (.sipush 2047, 3) := by decide +kernel
theorem dX5_set_120 : decode cX5_set 120 = .ok (.iconst (-1), 1) := by decide +kernel
theorem dX5_set_121 : decode cX5_set 121 = .ok (.invokevirtual 165, 3) := by decide +kernel
theorem dX5_set_124 : decode cX5_set 124 = .ok (.ireturn, 1) := by decide +kernel
theorem dX5_set_125 : decode cX5_set 125 = .ok (.bipush (-2), 2) := by decide +kernel
theorem dX5_set_127 : decode cX5_set 127 = .ok (.ireturn, 1) := by decide +kernel
set_option maxRecDepth 20000 in
theorem ggX5_boat_X5_isSet : GoodIn wsX5_boat wsX5_isSet := goodIn_r _ [5, 6, 7, 8, 4, 9, 51, 52, 53, 54, 55, 56, 57, 58, 59, 60, 61, 62, 63] (by decide +kernel) (by decide +kernel)
set_option maxRecDepth 20000 in
theorem gX5_boat_X5_isSet : GoodIn wsX5_boat (wsV RX5 92 RX5 yX5_isSet wsX5_isSet) := goodIn_app (goodIn_of _ (by decide +kernel)) ggX5_boat_X5_isSet
set_option maxRecDepth 20000 in
theorem ggX5_boat_X5_in : GoodIn wsX5_boat wsX5_in := goodIn_r _ [9] (by decide +kernel) (by decide +kernel)
set_option maxRecDepth 20000 in
theorem gX5_boat_X5_in : GoodIn wsX5_boat (va_wsS RX5 39 yX5_in wsX5_in) := goodIn_app (goodIn_of _ (by decide +kernel)) ggX5_boat_X5_in
set_option maxRecDepth 20000 in
theorem ggX5_boat_X5_kindOf : GoodIn wsX5_boat wsX5_kindOf := goodIn_r _ [13, 14, 15, 16, 4, 17, 6, 51, 52, 53, 54, 55, 56, 57, 58, 59, 60, 61, 62, 63] (by decide +kernel) (by decide +kernel)
set_option maxRecDepth 20000 in
theorem gX5_boat_X5_kindOf : GoodIn wsX5_boat (wsV RX5 62 RX5 yX5_kindOf wsX5_kindOf) := goodIn_app (goodIn_of _ (by decide +kernel)) ggX5_boat_X5_kindOf
set_option maxRecDepth 20000 in
theorem ggX5_boat_X5_manyIn : GoodIn wsX5_boat wsX5_manyIn := goodIn_r _ [21, 22, 23, 24, 4, 25, 14, 15, 16, 17, 6, 51, 52, 53, 54, 55, 56, 57, 58, 59, 60, 61, 62, 63] (by decide +kernel) (by decide +kernel)
set_option maxRecDepth 20000 in
theorem gX5_boat_X5_manyIn : GoodIn wsX5_boat (wsV RX5 65 RX5 yX5_manyIn wsX5_manyIn) := goodIn_app (goodIn_of _ (by decide +kernel)) ggX5_boat_X5_manyIn
set_option maxRecDepth 20000 in
theorem ggX5_boat_X5_runsIn : GoodIn wsX5_boat wsX5_runsIn := goodIn_r _ [29, 22, 23, 24, 4, 25, 14, 15, 16, 17, 6, 51, 52, 53, 54, 55, 56, 57, 58, 59, 60, 61, 62, 63] (by decide +kernel) (by decide +kernel)
set_option maxRecDepth 20000 in
theorem gX5_boat_X5_runsIn : GoodIn wsX5_boat (wsV RX5 68 RX5 yX5_runsIn wsX5_runsIn) := goodIn_app (goodIn_of _ (by decide +kernel)) ggX5_boat_X5_runsIn
set_option maxRecDepth 20000 in
theorem ggX5_boat_X5_unitsOf : GoodIn wsX5_boat wsX5_unitsOf := goodIn_r _ [33, 10, 11, 12, 4, 13, 14, 15, 16, 17, 6, 18, 19, 20, 21, 22, 23, 24, 25, 26, 27, 28, 29, 34, 35, 36, 51, 52, 53, 54, 55, 56, 57, 58, 59, 60, 61, 62, 63] (by decide +kernel) (by decide +kernel)
set_option maxRecDepth 20000 in
theorem gX5_boat_X5_unitsOf : GoodIn wsX5_boat (wsV RX5 103 RX5 yX5_unitsOf wsX5_unitsOf) := goodIn_app (goodIn_of _ (by decide +kernel)) ggX5_boat_X5_unitsOf
set_option maxRecDepth 20000 in
theorem ggX5_boat_X5_bestOf : GoodIn wsX5_boat wsX5_bestOf := goodIn_r _ [40, 18, 19, 20, 4, 21, 22, 23, 24, 25, 14, 15, 16, 17, 6, 26, 27, 28, 29, 41, 42, 43, 44, 45, 46, 34, 35, 36, 51, 52, 53, 54, 55, 56, 57, 58, 59, 60, 61, 62, 63] (by decide +kernel) (by decide +kernel)
set_option maxRecDepth 20000 in
theorem gX5_boat_X5_bestOf : GoodIn wsX5_boat (wsV RX5 74 RX5 yX5_bestOf wsX5_bestOf) := goodIn_app (goodIn_of _ (by decide +kernel)) ggX5_boat_X5_bestOf
set_option maxRecDepth 20000 in
theorem ggX5_boat_X5_tollOf : GoodIn wsX5_boat wsX5_tollOf := goodIn_r _ [50, 37, 38, 39, 4, 40, 18, 19, 20, 21, 22, 23, 24, 25, 14, 15, 16, 17, 6, 26, 27, 28, 29, 41, 42, 43, 44, 45, 46, 34, 35, 36, 10, 11, 12, 13, 51, 52, 53, 54, 55, 56, 57, 58, 59, 60, 61, 62, 63] (by decide +kernel) (by decide +kernel)
set_option maxRecDepth 20000 in
theorem gX5_boat_X5_tollOf : GoodIn wsX5_boat (wsV RX5 77 RX5 yX5_tollOf wsX5_tollOf) := goodIn_app (goodIn_of _ (by decide +kernel)) ggX5_boat_X5_tollOf
theorem dX5_boat_0 : decode cX5_boat 0 = .ok (.aload_n 0, 1) := by decide +kernel
theorem dX5_boat_1 : decode cX5_boat 1 = .ok (.iload_n 1, 1) := by decide +kernel
theorem dX5_boat_2 : decode cX5_boat 2 = .ok (.invokevirtual 92, 3) := by decide +kernel
theorem dX5_boat_5 : decode cX5_boat 5 = .ok (.ifCond .ne 5, 3) := by decide +kernel
theorem dX5_boat_8 : decode cX5_boat 8 = .ok (.iconst (-1), 1) := by decide +kernel
theorem dX5_boat_9 : decode cX5_boat 9 = .ok (.ireturn, 1) := by decide +kernel
theorem dX5_boat_10 : decode cX5_boat 10 = .ok (.iload_n 2, 1) := by decide +kernel
theorem dX5_boat_11 : decode cX5_boat 11 = .ok (.iconst 0, 1) := by decide +kernel
theorem dX5_boat_12 : decode cX5_boat 12 = .ok (.bipush 7, 2) := by decide +kernel
theorem dX5_boat_14 : decode cX5_boat 14 = .ok (.invokestatic 39, 3) := by decide +kernel
theorem dX5_boat_17 : decode cX5_boat 17 = .ok (.ifCond .eq 12, 3) := by decide +kernel
theorem dX5_boat_20 : decode cX5_boat 20 = .ok (.iload_n 3, 1) := by decide +kernel
theorem dX5_boat_21 : decode cX5_boat 21 = .ok (.iconst 0, 1) := by decide +kernel
theorem dX5_boat_22 : decode cX5_boat 22 = .ok (.iconst 5, 1) := by decide +kernel
theorem dX5_boat_23 : decode cX5_boat 23 = .ok (.invokestatic 39, 3) := by decide +kernel
theorem dX5_boat_26 : decode cX5_boat 26 = .ok (.ifCond .ne 6, 3) := by decide +kernel
theorem dX5_boat_29 : decode cX5_boat 29 = .ok (.bipush (-2), 2) := by decide +kernel
theorem dX5_boat_31 : decode cX5_boat 31 = .ok (.ireturn, 1) := by decide +kernel
theorem dX5_boat_32 : decode cX5_boat 32 = .ok (.aload_n 0, 1) := by decide +kernel
theorem dX5_boat_33 : decode cX5_boat 33 = .ok (.iload_n 1, 1) := by decide +kernel
theorem dX5_boat_34 : decode cX5_boat 34 = .ok (.iload_n 2, 1) := by decide +kernel
theorem dX5_boat_35 : decode cX5_boat 35 = .ok (.invokevirtual 62, 3) := by decide +kernel
theorem dX5_boat_38 : decode cX5_boat 38 = .ok (.ifCond .ge 6, 3) := by decide +kernel
theorem dX5_boat_41 : decode cX5_boat 41 = .ok (.bipush (-5), 2) := by decide +kernel
theorem dX5_boat_43 : decode cX5_boat 43 = .ok (.ireturn, 1) := by decide +kernel
theorem dX5_boat_44 : decode cX5_boat 44 = .ok (.iload_n 3, 1) := by decide +kernel
theorem dX5_boat_45 : decode cX5_boat 45 = .ok (.tableswitch 70 0 4 #[35, 42, 49, 56, 63], 35) := by decide +kernel
theorem dX5_boat_80 : decode cX5_boat 80 = .ok (.aload_n 0, 1) := by decide +kernel
theorem dX5_boat_81 : decode cX5_boat 81 = .ok (.iload_n 1, 1) := by decide +kernel
theorem dX5_boat_82 : decode cX5_boat 82 = .ok (.iload_n 2, 1) := by decide +kernel
theorem dX5_boat_83 : decode cX5_boat 83 = .ok (.invokevirtual 62, 3) := by decide +kernel
theorem dX5_boat_86 : decode cX5_boat 86 = .ok (.ireturn, 1) := by decide +kernel
theorem dX5_boat_87 : decode cX5_boat 87 = .ok (.aload_n 0, 1) := by decide +kernel
theorem dX5_boat_88 : decode cX5_boat 88 = .ok (.iload_n 1, 1) := by decide +kernel
theorem dX5_boat_89 : decode cX5_boat 89 = .ok (.iload_n 2, 1) := by decide +kernel
theorem dX5_boat_90 : decode cX5_boat 90 = .ok (.invokevirtual 65, 3) := by decide +kernel
theorem dX5_boat_93 : decode cX5_boat 93 = .ok (.ireturn, 1) := by decide +kernel
theorem dX5_boat_94 : decode cX5_boat 94 = .ok (.aload_n 0, 1) := by decide +kernel
theorem dX5_boat_95 : decode cX5_boat 95 = .ok (.iload_n 1, 1) := by decide +kernel
theorem dX5_boat_96 : decode cX5_boat 96 = .ok (.iload_n 2, 1) := by decide +kernel
theorem dX5_boat_97 : decode cX5_boat 97 = .ok (.invokevirtual 68, 3) := by decide +kernel
theorem dX5_boat_100 : decode cX5_boat 100 = .ok (.ireturn, 1) := by decide +kernel
theorem dX5_boat_101 : decode cX5_boat 101 = .ok (.aload_n 0, 1) := by decide +kernel
theorem dX5_boat_102 : decode cX5_boat 102 = .ok (.iload_n 1, 1) := by decide +kernel
theorem dX5_boat_103 : decode cX5_boat 103 = .ok (.iload_n 2, 1) := by decide +kernel
theorem dX5_boat_104 : decode cX5_boat 104 = .ok (.invokevirtual 103, 3) := by decide +kernel
theorem dX5_boat_107 : decode cX5_boat 107 = .ok (.ireturn, 1) := by decide +kernel
theorem dX5_boat_108 : decode cX5_boat 108 = .ok (.aload_n 0, 1) := by decide +kernel
theorem dX5_boat_109 : decode cX5_boat 109 = .ok (.iload_n 1, 1) := by decide +kernel
theorem dX5_boat_110 : decode cX5_boat 110 = .ok (.iload_n 2, 1) := by decide +kernel
theorem dX5_boat_111 : decode cX5_boat 111 = .ok (.invokevirtual 74, 3) := by decide +kernel
theorem dX5_boat_114 : decode cX5_boat 114 = .ok (.ireturn, 1) := by decide +kernel
theorem dX5_boat_115 : decode cX5_boat 115 = .ok (.aload_n 0, 1) := by decide +kernel
theorem dX5_boat_116 : decode cX5_boat 116 = .ok (.iload_n 1, 1) := by decide +kernel
theorem dX5_boat_117 : decode cX5_boat 117 = .ok (.iload_n 2, 1) := by decide +kernel
theorem dX5_boat_118 : decode cX5_boat 118 = .ok (.invokevirtual 77, 3) := by decide +kernel
theorem dX5_boat_121 : decode cX5_boat 121 = .ok (.ireturn, 1) := by decide +kernel
set_option maxRecDepth 20000 in
theorem ggX5_rank_X5_isSet : GoodIn wsX5_rank wsX5_isSet := goodIn_r _ [5, 6, 7, 8, 4, 9, 25, 26, 27, 28, 29, 30, 31, 32, 33, 34, 35, 36, 37] (by decide +kernel) (by decide +kernel)
set_option maxRecDepth 20000 in
theorem gX5_rank_X5_isSet : GoodIn wsX5_rank (wsV RX5 92 RX5 yX5_isSet wsX5_isSet) := goodIn_app (goodIn_of _ (by decide +kernel)) ggX5_rank_X5_isSet
set_option maxRecDepth 20000 in
theorem ggX5_rank_X5_isNumber : GoodIn wsX5_rank wsX5_isNumber := goodIn_r _ [12, 7, 8, 4, 9] (by decide +kernel) (by decide +kernel)
set_option maxRecDepth 20000 in
theorem gX5_rank_X5_isNumber : GoodIn wsX5_rank (va_wsS RX5 112 yX5_isNumber wsX5_isNumber) := goodIn_app (goodIn_of _ (by decide +kernel)) ggX5_rank_X5_isNumber
set_option maxRecDepth 20000 in
theorem ggX5_rank_X5_rankOf : GoodIn wsX5_rank wsX5_rankOf := goodIn_r _ [16, 17, 18, 19, 4, 20, 21, 22, 23, 24, 6, 25, 26, 27, 28, 29, 30, 31, 32, 33, 34, 35, 36, 37] (by decide +kernel) (by decide +kernel)
set_option maxRecDepth 20000 in
theorem gX5_rank_X5_rankOf : GoodIn wsX5_rank (wsV RX5 159 RX5 yX5_rankOf wsX5_rankOf) := goodIn_app (goodIn_of _ (by decide +kernel)) ggX5_rank_X5_rankOf
theorem dX5_rank_0 : decode cX5_rank 0 = .ok (.aload_n 0, 1) := by decide +kernel
theorem dX5_rank_1 : decode cX5_rank 1 = .ok (.iload_n 1, 1) := by decide +kernel
theorem dX5_rank_2 : decode cX5_rank 2 = .ok (.invokevirtual 92, 3) := by decide +kernel
theorem dX5_rank_5 : decode cX5_rank 5 = .ok (.ifCond .ne 7, 3) := by decide +kernel
theorem dX5_rank_8 : decode cX5_rank 8 = .ok (.iconst (-1), 1) := by decide +kernel
theorem dX5_rank_9 : decode cX5_rank 9 = .ok (.goto 21, 3) := by decide +kernel
theorem dX5_rank_12 : decode cX5_rank 12 = .ok (.iload_n 2, 1) := by decide +kernel
theorem dX5_rank_13 : decode cX5_rank 13 = .ok (.invokestatic 112, 3) := by decide +kernel
theorem dX5_rank_16 : decode cX5_rank 16 = .ok (.ifCond .ne 8, 3) := by decide +kernel
theorem dX5_rank_19 : decode cX5_rank 19 = .ok (.bipush (-2), 2) := by decide +kernel
theorem dX5_rank_21 : decode cX5_rank 21 = .ok (.goto 9, 3) := by decide +kernel
theorem dX5_rank_24 : decode cX5_rank 24 = .ok (.aload_n 0, 1) := by decide +kernel
theorem dX5_rank_25 : decode cX5_rank 25 = .ok (.iload_n 1, 1) := by decide +kernel
theorem dX5_rank_26 : decode cX5_rank 26 = .ok (.iload_n 2, 1) := by decide +kernel
theorem dX5_rank_27 : decode cX5_rank 27 = .ok (.invokevirtual 159, 3) := by decide +kernel
theorem dX5_rank_30 : decode cX5_rank 30 = .ok (.ireturn, 1) := by decide +kernel
set_option maxRecDepth 20000 in
theorem ggX5_at_X5_isSet : GoodIn wsX5_at wsX5_isSet := goodIn_r _ [5, 6, 7, 8, 4, 9, 18, 19, 20, 21, 22, 23, 24, 25, 26, 27, 28, 29, 30] (by decide +kernel) (by decide +kernel)
set_option maxRecDepth 20000 in
theorem gX5_at_X5_isSet : GoodIn wsX5_at (wsV RX5 92 RX5 yX5_isSet wsX5_isSet) := goodIn_app (goodIn_of _ (by decide +kernel)) ggX5_at_X5_isSet
set_option maxRecDepth 20000 in
theorem ggX5_at_X5_isIn : GoodIn wsX5_at wsX5_isIn := goodIn_r _ [13, 14, 15, 16, 4, 17, 6, 18, 19, 20, 21, 22, 23, 24, 25, 26, 27, 28, 29, 30] (by decide +kernel) (by decide +kernel)
set_option maxRecDepth 20000 in
theorem gX5_at_X5_isIn : GoodIn wsX5_at (wsV RX5 51 RX5 yX5_isIn wsX5_isIn) := goodIn_app (goodIn_of _ (by decide +kernel)) ggX5_at_X5_isIn
theorem dX5_at_0 : decode cX5_at 0 = .ok (.aload_n 0, 1) := by decide +kernel
theorem dX5_at_1 : decode cX5_at 1 = .ok (.iload_n 1, 1) := by decide +kernel
theorem dX5_at_2 : decode cX5_at 2 = .ok (.invokevirtual 92, 3) := by decide +kernel
theorem dX5_at_5 : decode cX5_at 5 = .ok (.ifCond .ne 5, 3) := by decide +kernel
theorem dX5_at_8 : decode cX5_at 8 = .ok (.iconst (-1), 1) := by decide +kernel
theorem dX5_at_9 : decode cX5_at 9 = .ok (.ireturn, 1) := by decide +kernel
theorem dX5_at_10 : decode cX5_at 10 = .ok (.iload_n 2, 1) := by decide +kernel
theorem dX5_at_11 : decode cX5_at 11 = .ok (.ifCond .ge 6, 3) := by decide +kernel
theorem dX5_at_14 : decode cX5_at 14 = .ok (.bipush (-2), 2) := by decide +kernel
theorem dX5_at_16 : decode cX5_at 16 = .ok (.ireturn, 1) := by decide +kernel
theorem dX5_at_17 : decode cX5_at 17 = .ok (.iload_n 2, 1) := by decide +kernel
theorem dX5_at_18 : decode cX5_at 18 = .ok (.istore_n 3, 1) := by decide +kernel
theorem dX5_at_19 : decode cX5_at 19 = .ok (.iconst 0, 1) := by decide +kernel
theorem dX5_at_20 : decode cX5_at 20 = .ok (.istore 4, 2) := by decide +kernel
theorem dX5_at_22 : decode cX5_at 22 = .ok (.iload 4, 2) := by decide +kernel
theorem dX5_at_24 : decode cX5_at 24 = .ok (.sipush 2048, 3) := by decide +kernel
theorem dX5_at_27 : decode cX5_at 27 = .ok (.if_icmp .ge 29, 3) := by decide +kernel
theorem dX5_at_30 : decode cX5_at 30 = .ok (.aload_n 0, 1) := by decide +kernel
theorem dX5_at_31 : decode cX5_at 31 = .ok (.iload_n 1, 1) := by decide +kernel
theorem dX5_at_32 : decode cX5_at 32 = .ok (.iload 4, 2) := by decide +kernel
theorem dX5_at_34 : decode cX5_at 34 = .ok (.invokevirtual 51, 3) := by decide +kernel
theorem dX5_at_37 : decode cX5_at 37 = .ok (.ifCond .eq 13, 3) := by decide +kernel
theorem dX5_at_40 : decode cX5_at 40 = .ok (.iload_n 3, 1) := by decide +kernel
theorem dX5_at_41 : decode cX5_at 41 = .ok (.ifCond .ne 6, 3) := by decide +kernel
theorem dX5_at_44 : decode cX5_at 44 = .ok (.iload 4, 2) := by decide +kernel
theorem dX5_at_46 : decode cX5_at 46 = .ok (.ireturn, 1) := by decide +kernel
theorem dX5_at_47 : decode cX5_at 47 = .ok (.iinc 3 (-1), 3) := by decide +kernel
theorem dX5_at_50 : decode cX5_at 50 = .ok (.iinc 4 1, 3) := by decide +kernel
theorem dX5_at_53 : decode cX5_at 53 = .ok (.goto (-31), 3) := by decide +kernel
theorem dX5_at_56 : decode cX5_at 56 = .ok (.bipush (-5), 2) := by decide +kernel
theorem dX5_at_58 : decode cX5_at 58 = .ok (.ireturn, 1) := by decide +kernel
set_option maxRecDepth 20000 in
theorem ggX5_next_X5_isSet : GoodIn wsX5_next wsX5_isSet := goodIn_r _ [5, 6, 7, 8, 4, 9, 25, 26, 27, 28, 29, 30, 31, 32, 33, 34, 35, 36, 37] (by decide +kernel) (by decide +kernel)
set_option maxRecDepth 20000 in
theorem gX5_next_X5_isSet : GoodIn wsX5_next (wsV RX5 92 RX5 yX5_isSet wsX5_isSet) := goodIn_app (goodIn_of _ (by decide +kernel)) ggX5_next_X5_isSet
set_option maxRecDepth 20000 in
theorem ggX5_next_X5_isNumber : GoodIn wsX5_next wsX5_isNumber := goodIn_r _ [12, 7, 8, 4, 9] (by decide +kernel) (by decide +kernel)
set_option maxRecDepth 20000 in
theorem gX5_next_X5_isNumber : GoodIn wsX5_next (va_wsS RX5 112 yX5_isNumber wsX5_isNumber) := goodIn_app (goodIn_of _ (by decide +kernel)) ggX5_next_X5_isNumber
set_option maxRecDepth 20000 in
theorem ggX5_next_X5_firstFrom : GoodIn wsX5_next wsX5_firstFrom := goodIn_r _ [16, 10, 11, 4, 12, 7, 8, 9, 17, 18, 19, 20, 21, 22, 23, 24, 6, 25, 26, 27, 28, 29, 30, 31, 32, 33, 34, 35, 36, 37] (by decide +kernel) (by decide +kernel)
set_option maxRecDepth 20000 in
theorem gX5_next_X5_firstFrom : GoodIn wsX5_next (wsV RX5 165 RX5 yX5_firstFrom wsX5_firstFrom) := goodIn_app (goodIn_of _ (by decide +kernel)) ggX5_next_X5_firstFrom
theorem dX5_next_0 : decode cX5_next 0 = .ok (.aload_n 0, 1) := by decide +kernel
theorem dX5_next_1 : decode cX5_next 1 = .ok (.iload_n 1, 1) := by decide +kernel
theorem dX5_next_2 : decode cX5_next 2 = .ok (.invokevirtual 92, 3) := by decide +kernel
theorem dX5_next_5 : decode cX5_next 5 = .ok (.ifCond .ne 7, 3) := by decide +kernel
theorem dX5_next_8 : decode cX5_next 8 = .ok (.iconst (-1), 1) := by decide +kernel
theorem dX5_next_9 : decode cX5_next 9 = .ok (.goto 22, 3) := by decide +kernel
theorem dX5_next_12 : decode cX5_next 12 = .ok (.iload_n 2, 1) := by decide +kernel
theorem dX5_next_13 : decode cX5_next 13 = .ok (.invokestatic 112, 3) := by decide +kernel
theorem dX5_next_16 : decode cX5_next 16 = .ok (.ifCond .ne 8, 3) := by decide +kernel
theorem dX5_next_19 : decode cX5_next 19 = .ok (.bipush (-2), 2) := by decide +kernel
theorem dX5_next_21 : decode cX5_next 21 = .ok (.goto 10, 3) := by decide +kernel
theorem dX5_next_24 : decode cX5_next 24 = .ok (.aload_n 0, 1) := by decide +kernel
theorem dX5_next_25 : decode cX5_next 25 = .ok (.iload_n 1, 1) := by decide +kernel
theorem dX5_next_26 : decode cX5_next 26 = .ok (.iload_n 2, 1) := by decide +kernel
theorem dX5_next_27 : decode cX5_next 27 = .ok (.iconst 1, 1) := by decide +kernel
theorem dX5_next_28 : decode cX5_next 28 = .ok (.invokevirtual 165, 3) := by decide +kernel
theorem dX5_next_31 : decode cX5_next 31 = .ok (.ireturn, 1) := by decide +kernel
set_option maxRecDepth 20000 in
theorem ggX5_nearest_X5_isSet : GoodIn wsX5_nearest wsX5_isSet := goodIn_r _ [5, 6, 7, 8, 4, 9, 25, 26, 27, 28, 29, 30, 31, 32, 33, 34, 35, 36, 37] (by decide +kernel) (by decide +kernel)
set_option maxRecDepth 20000 in
theorem gX5_nearest_X5_isSet : GoodIn wsX5_nearest (wsV RX5 92 RX5 yX5_isSet wsX5_isSet) := goodIn_app (goodIn_of _ (by decide +kernel)) ggX5_nearest_X5_isSet
set_option maxRecDepth 20000 in
theorem ggX5_nearest_X5_isNumber : GoodIn wsX5_nearest wsX5_isNumber := goodIn_r _ [12, 7, 8, 4, 9] (by decide +kernel) (by decide +kernel)
set_option maxRecDepth 20000 in
theorem gX5_nearest_X5_isNumber : GoodIn wsX5_nearest (va_wsS RX5 112 yX5_isNumber wsX5_isNumber) := goodIn_app (goodIn_of _ (by decide +kernel)) ggX5_nearest_X5_isNumber
set_option maxRecDepth 20000 in
theorem ggX5_nearest_X5_firstFrom : GoodIn wsX5_nearest wsX5_firstFrom := goodIn_r _ [16, 10, 11, 4, 12, 7, 8, 9, 17, 18, 19, 20, 21, 22, 23, 24, 6, 25, 26, 27, 28, 29, 30, 31, 32, 33, 34, 35, 36, 37] (by decide +kernel) (by decide +kernel)
set_option maxRecDepth 20000 in
theorem gX5_nearest_X5_firstFrom : GoodIn wsX5_nearest (wsV RX5 165 RX5 yX5_firstFrom wsX5_firstFrom) := goodIn_app (goodIn_of _ (by decide +kernel)) ggX5_nearest_X5_firstFrom
theorem dX5_nearest_0 : decode cX5_nearest 0 = .ok (.aload_n 0, 1) := by decide +kernel
theorem dX5_nearest_1 : decode cX5_nearest 1 = .ok (.iload_n 1, 1) := by decide +kernel
theorem dX5_nearest_2 : decode cX5_nearest 2 = .ok (.invokevirtual 92, 3) := by decide +kernel
theorem dX5_nearest_5 : decode cX5_nearest 5 = .ok (.ifCond .ne 5, 3) := by decide +kernel
theorem dX5_nearest_8 : decode cX5_nearest 8 = .ok (.iconst (-1), 1) := by decide +kernel
theorem dX5_nearest_9 : decode cX5_nearest 9 = .ok (.ireturn, 1) := by decide +kernel
theorem dX5_nearest_10 : decode cX5_nearest 10 = .ok (.iload_n 2, 1) := by decide +kernel
theorem dX5_nearest_11 : decode cX5_nearest 11 = .ok (.invokestatic 112, 3) := by decide +kernel
theorem dX5_nearest_14 : decode cX5_nearest 14 = .ok (.ifCond .ne 6, 3) := by decide +kernel
theorem dX5_nearest_17 : decode cX5_nearest 17 = .ok (.bipush (-2), 2) := by decide +kernel
theorem dX5_nearest_19 : decode cX5_nearest 19 = .ok (.ireturn, 1) := by decide +kernel
theorem dX5_nearest_20 : decode cX5_nearest 20 = .ok (.aload_n 0, 1) := by decide +kernel
theorem dX5_nearest_21 : decode cX5_nearest 21 = .ok (.iload_n 1, 1) := by decide +kernel
theorem dX5_nearest_22 : decode cX5_nearest 22 = .ok (.iload_n 2, 1) := by decide +kernel
theorem dX5_nearest_23 : decode cX5_nearest 23 = .ok (.iconst 1, 1) := by decide +kernel
theorem dX5_nearest_24 : decode cX5_nearest 24 = .ok (.invokevirtual 165, 3) := by decide +kernel
theorem dX5_nearest_27 : decode cX5_nearest 27 = .ok (.istore_n 3, 1) := by decide +kernel
theorem dX5_nearest_28 : decode cX5_nearest 28 = .ok (.aload_n 0, 1) := by decide +kernel
theorem dX5_nearest_29 : decode cX5_nearest 29 = .ok (.iload_n 1, 1) := by decide +kernel
theorem dX5_nearest_30 : decode cX5_nearest 30 = .ok (.iload_n 2, 1) := by decide +kernel
theorem dX5_nearest_31 : decode cX5_nearest 31 = .ok (.iconst (-1), 1) := by decide +kernel
theorem dX5_nearest_32 : decode cX5_nearest 32 = .ok (.invokevirtual 165, 3) := by decide +kernel
theorem dX5_nearest_35 : decode cX5_nearest 35 = .ok (.istore 4, 2) := by decide +kernel
theorem dX5_nearest_37 : decode cX5_nearest 37 = .ok (.iload 4, 2) := by decide +kernel
theorem dX5_nearest_39 : decode cX5_nearest 39 = .ok (.bipush (-5), 2) := by decide +kernel
theorem dX5_nearest_41 : decode cX5_nearest 41 = .ok (.if_icmp .eq 19, 3) := by decide +kernel
theorem dX5_nearest_44 : decode cX5_nearest 44 = .ok (.iload_n 3, 1) := by decide +kernel
theorem dX5_nearest_45 : decode cX5_nearest 45 = .ok (.bipush (-5), 2) := by decide +kernel
theorem dX5_nearest_47 : decode cX5_nearest 47 = .ok (.if_icmp .eq 17, 3) := by decide +kernel
theorem dX5_nearest_50 : decode cX5_nearest 50 = .ok (.iload_n 3, 1) := by decide +kernel
theorem dX5_nearest_51 : decode cX5_nearest 51 = .ok (.iload_n 2, 1) := by decide +kernel
theorem dX5_nearest_52 : decode cX5_nearest 52 = .ok (.isub, 1) := by decide +kernel
theorem dX5_nearest_53 : decode cX5_nearest 53 = .ok (.iload_n 2, 1) := by decide +kernel
theorem dX5_nearest_54 : decode cX5_nearest 54 = .ok (.iload 4, 2) := by decide +kernel
theorem dX5_nearest_56 : decode cX5_nearest 56 = .ok (.isub, 1) := by decide +kernel
theorem dX5_nearest_57 : decode cX5_nearest 57 = .ok (.if_icmp .ge 7, 3) := by decide +kernel
theorem dX5_nearest_60 : decode cX5_nearest 60 = .ok (.iload_n 3, 1) := by decide +kernel
theorem dX5_nearest_61 : decode cX5_nearest 61 = .ok (.goto 5, 3) := by decide +kernel
theorem dX5_nearest_64 : decode cX5_nearest 64 = .ok (.iload 4, 2) := by decide +kernel
theorem dX5_nearest_66 : decode cX5_nearest 66 = .ok (.ireturn, 1) := by decide +kernel
set_option maxRecDepth 20000 in
theorem ggX5_gap_X5_isSet : GoodIn wsX5_gap wsX5_isSet := goodIn_r _ [5, 6, 7, 8, 4, 9, 18, 19, 20, 21, 22, 23, 24, 25, 26, 27, 28, 29, 30] (by decide +kernel) (by decide +kernel)
set_option maxRecDepth 20000 in
theorem gX5_gap_X5_isSet : GoodIn wsX5_gap (wsV RX5 92 RX5 yX5_isSet wsX5_isSet) := goodIn_app (goodIn_of _ (by decide +kernel)) ggX5_gap_X5_isSet
set_option maxRecDepth 20000 in
theorem ggX5_gap_X5_in : GoodIn wsX5_gap wsX5_in := goodIn_r _ [9] (by decide +kernel) (by decide +kernel)
set_option maxRecDepth 20000 in
theorem gX5_gap_X5_in : GoodIn wsX5_gap (va_wsS RX5 39 yX5_in wsX5_in) := goodIn_app (goodIn_of _ (by decide +kernel)) ggX5_gap_X5_in
set_option maxRecDepth 20000 in
theorem ggX5_gap_X5_isIn : GoodIn wsX5_gap wsX5_isIn := goodIn_r _ [13, 14, 15, 16, 4, 17, 6, 18, 19, 20, 21, 22, 23, 24, 25, 26, 27, 28, 29, 30] (by decide +kernel) (by decide +kernel)
set_option maxRecDepth 20000 in
theorem gX5_gap_X5_isIn : GoodIn wsX5_gap (wsV RX5 51 RX5 yX5_isIn wsX5_isIn) := goodIn_app (goodIn_of _ (by decide +kernel)) ggX5_gap_X5_isIn
theorem dX5_gap_0 : decode cX5_gap 0 = .ok (.aload_n 0, 1) := by decide +kernel
theorem dX5_gap_1 : decode cX5_gap 1 = .ok (.iload_n 1, 1) := by decide +kernel
theorem dX5_gap_2 : decode cX5_gap 2 = .ok (.invokevirtual 92, 3) := by decide +kernel
theorem dX5_gap_5 : decode cX5_gap 5 = .ok (.ifCond .ne 5, 3) := by decide +kernel
theorem dX5_gap_8 : decode cX5_gap 8 = .ok (.iconst (-1), 1) := by decide +kernel
theorem dX5_gap_9 : decode cX5_gap 9 = .ok (.ireturn, 1) := by decide +kernel
theorem dX5_gap_10 : decode cX5_gap 10 = .ok (.iload_n 2, 1) := by decide +kernel
theorem dX5_gap_11 : decode cX5_gap 11 = .ok (.iconst 1, 1) := by decide +kernel
theorem dX5_gap_12 : decode cX5_gap 12 = .ok (.sipush 2048, 3) := by decide +kernel
theorem dX5_gap_15 : decode cX5_gap 15 = .ok (.invokestatic 39, 3) := by decide +kernel
theorem dX5_gap_18 : decode cX5_gap 18 = .ok (.ifCond .ne 6, 3) := by decide +kernel
theorem dX5_gap_21 : decode cX5_gap 21 = .ok (.bipush (-2), 2) := by decide +kernel
theorem dX5_gap_23 : decode cX5_gap 23 = .ok (.ireturn, 1) := by decide +kernel
theorem dX5_gap_24 : decode cX5_gap 24 = .ok (.iconst 0, 1) := by decide +kernel
theorem dX5_gap_25 : decode cX5_gap 25 = .ok (.istore_n 3, 1) := by decide +kernel
theorem dX5_gap_26 : decode cX5_gap 26 = .ok (.iconst 0, 1) := by decide +kernel
theorem dX5_gap_27 : decode cX5_gap 27 = .ok (.istore 4, 2) := by decide +kernel
theorem dX5_gap_29 : decode cX5_gap 29 = .ok (.iload 4, 2) := by decide +kernel
theorem dX5_gap_31 : decode cX5_gap 31 = .ok (.sipush 2048, 3) := by decide +kernel
theorem dX5_gap_34 : decode cX5_gap 34 = .ok (.if_icmp .ge 39, 3) := by decide +kernel
theorem dX5_gap_37 : decode cX5_gap 37 = .ok (.aload_n 0, 1) := by decide +kernel
theorem dX5_gap_38 : decode cX5_gap 38 = .ok (.iload_n 1, 1) := by decide +kernel
theorem dX5_gap_39 : decode cX5_gap 39 = .ok (.iload 4, 2) := by decide +kernel
theorem dX5_gap_41 : decode cX5_gap 41 = .ok (.invokevirtual 51, 3) := by decide +kernel
theorem dX5_gap_44 : decode cX5_gap 44 = .ok (.ifCond .eq 7, 3) := by decide +kernel
theorem dX5_gap_47 : decode cX5_gap 47 = .ok (.iconst 0, 1) := by decide +kernel
theorem dX5_gap_48 : decode cX5_gap 48 = .ok (.goto 6, 3) := by decide +kernel
theorem dX5_gap_51 : decode cX5_gap 51 = .ok (.iload_n 3, 1) := by decide +kernel
theorem dX5_gap_52 : decode cX5_gap 52 = .ok (.iconst 1, 1) := by decide +kernel
theorem dX5_gap_53 : decode cX5_gap 53 = .ok (.iadd, 1) := by decide +kernel
theorem dX5_gap_54 : decode cX5_gap 54 = .ok (.istore_n 3, 1) := by decide +kernel
theorem dX5_gap_55 : decode cX5_gap 55 = .ok (.iload_n 3, 1) := by decide +kernel
theorem dX5_gap_56 : decode cX5_gap 56 = .ok (.iload_n 2, 1) := by decide +kernel
theorem dX5_gap_57 : decode cX5_gap 57 = .ok (.if_icmp .ne 10, 3) := by decide +kernel
theorem dX5_gap_60 : decode cX5_gap 60 = .ok (.iload 4, 2) := by decide +kernel
theorem dX5_gap_62 : decode cX5_gap 62 = .ok (.iload_n 2, 1) := by decide +kernel
theorem dX5_gap_63 : decode cX5_gap 63 = .ok (.isub, 1) := by decide +kernel
theorem dX5_gap_64 : decode cX5_gap 64 = .ok (.iconst 1, 1) := by decide +kernel
theorem dX5_gap_65 : decode cX5_gap 65 = .ok (.iadd, 1) := by decide +kernel
theorem dX5_gap_66 : decode cX5_gap 66 = .ok (.ireturn, 1) := by decide +kernel
theorem dX5_gap_67 : decode cX5_gap 67 = .ok (.iinc 4 1, 3) := by decide +kernel
theorem dX5_gap_70 : decode cX5_gap 70 = .ok (.goto (-41), 3) := by decide +kernel
theorem dX5_gap_73 : decode cX5_gap 73 = .ok (.bipush (-5), 2) := by decide +kernel
theorem dX5_gap_75 : decode cX5_gap 75 = .ok (.ireturn, 1) := by decide +kernel
set_option maxRecDepth 20000 in
theorem ggX5_sizeOf_X5_isSet : GoodIn wsX5_sizeOf wsX5_isSet := goodIn_r _ [5, 6, 7, 8, 4, 9, 26, 27, 28, 29, 30, 31, 32, 33, 34, 35, 36, 37, 38] (by decide +kernel) (by decide +kernel)
set_option maxRecDepth 20000 in
theorem gX5_sizeOf_X5_isSet : GoodIn wsX5_sizeOf (wsV RX5 92 RX5 yX5_isSet wsX5_isSet) := goodIn_app (goodIn_of _ (by decide +kernel)) ggX5_sizeOf_X5_isSet
set_option maxRecDepth 20000 in
theorem ggX5_sizeOf_X5_in : GoodIn wsX5_sizeOf wsX5_in := goodIn_r _ [9] (by decide +kernel) (by decide +kernel)
set_option maxRecDepth 20000 in
theorem gX5_sizeOf_X5_in : GoodIn wsX5_sizeOf (va_wsS RX5 39 yX5_in wsX5_in) := goodIn_app (goodIn_of _ (by decide +kernel)) ggX5_sizeOf_X5_in
set_option maxRecDepth 20000 in
theorem ggX5_sizeOf_X5_laysGiven : GoodIn wsX5_sizeOf wsX5_laysGiven := goodIn_r _ [13, 14, 15, 16, 17, 4, 18, 19, 20, 21, 22, 6, 23, 24, 25, 26, 27, 28, 29, 30, 31, 32, 33, 34, 35, 36, 37, 38] (by decide +kernel) (by decide +kernel)
set_option maxRecDepth 20000 in
theorem gX5_sizeOf_X5_laysGiven : GoodIn wsX5_sizeOf (wsV RX5 133 RX5 yX5_laysGiven wsX5_laysGiven) := goodIn_app (goodIn_of _ (by decide +kernel)) ggX5_sizeOf_X5_laysGiven
theorem dX5_sizeOf_0 : decode cX5_sizeOf 0 = .ok (.aload_n 0, 1) := by decide +kernel
theorem dX5_sizeOf_1 : decode cX5_sizeOf 1 = .ok (.iload_n 2, 1) := by decide +kernel
theorem dX5_sizeOf_2 : decode cX5_sizeOf 2 = .ok (.invokevirtual 92, 3) := by decide +kernel
theorem dX5_sizeOf_5 : decode cX5_sizeOf 5 = .ok (.ifCond .eq 11, 3) := by decide +kernel
theorem dX5_sizeOf_8 : decode cX5_sizeOf 8 = .ok (.aload_n 0, 1) := by decide +kernel
theorem dX5_sizeOf_9 : decode cX5_sizeOf 9 = .ok (.iload_n 3, 1) := by decide +kernel
theorem dX5_sizeOf_10 : decode cX5_sizeOf 10 = .ok (.invokevirtual 92, 3) := by decide +kernel
theorem dX5_sizeOf_13 : decode cX5_sizeOf 13 = .ok (.ifCond .ne 7, 3) := by decide +kernel
theorem dX5_sizeOf_16 : decode cX5_sizeOf 16 = .ok (.iconst (-1), 1) := by decide +kernel
theorem dX5_sizeOf_17 : decode cX5_sizeOf 17 = .ok (.goto 24, 3) := by decide +kernel
theorem dX5_sizeOf_20 : decode cX5_sizeOf 20 = .ok (.iload_n 1, 1) := by decide +kernel
theorem dX5_sizeOf_21 : decode cX5_sizeOf 21 = .ok (.iconst 0, 1) := by decide +kernel
theorem dX5_sizeOf_22 : decode cX5_sizeOf 22 = .ok (.iconst 3, 1) := by decide +kernel
theorem dX5_sizeOf_23 : decode cX5_sizeOf 23 = .ok (.invokestatic 39, 3) := by decide +kernel
theorem dX5_sizeOf_26 : decode cX5_sizeOf 26 = .ok (.ifCond .ne 8, 3) := by decide +kernel
theorem dX5_sizeOf_29 : decode cX5_sizeOf 29 = .ok (.bipush (-2), 2) := by decide +kernel
theorem dX5_sizeOf_31 : decode cX5_sizeOf 31 = .ok (.goto 10, 3) := by decide +kernel
theorem dX5_sizeOf_34 : decode cX5_sizeOf 34 = .ok (.aload_n 0, 1) := by decide +kernel
theorem dX5_sizeOf_35 : decode cX5_sizeOf 35 = .ok (.iload_n 1, 1) := by decide +kernel
theorem dX5_sizeOf_36 : decode cX5_sizeOf 36 = .ok (.iload_n 2, 1) := by decide +kernel
theorem dX5_sizeOf_37 : decode cX5_sizeOf 37 = .ok (.iload_n 3, 1) := by decide +kernel
theorem dX5_sizeOf_38 : decode cX5_sizeOf 38 = .ok (.invokevirtual 133, 3) := by decide +kernel
theorem dX5_sizeOf_41 : decode cX5_sizeOf 41 = .ok (.ireturn, 1) := by decide +kernel
set_option maxRecDepth 20000 in
theorem ggX5_setsWith_X5_isIn : GoodIn wsX5_setsWith wsX5_isIn := goodIn_r _ [6, 7, 8, 9, 5, 10, 1, 11, 12, 13, 14, 15, 16, 17, 18, 19, 20, 21, 22, 23] (by decide +kernel) (by decide +kernel)
set_option maxRecDepth 20000 in
theorem gX5_setsWith_X5_isIn : GoodIn wsX5_setsWith (wsV RX5 51 RX5 yX5_isIn wsX5_isIn) := goodIn_app (goodIn_of _ (by decide +kernel)) ggX5_setsWith_X5_isIn
theorem dX5_setsWith_0 : decode cX5_setsWith 0 = .ok (.iconst 0, 1) := by decide +kernel
theorem dX5_setsWith_1 : decode cX5_setsWith 1 = .ok (.istore_n 2, 1) := by decide +kernel
theorem dX5_setsWith_2 : decode cX5_setsWith 2 = .ok (.iconst 0, 1) := by decide +kernel
theorem dX5_setsWith_3 : decode cX5_setsWith 3 = .ok (.istore_n 3, 1) := by decide +kernel
theorem dX5_setsWith_4 : decode cX5_setsWith 4 = .ok (.iload_n 3, 1) := by decide +kernel
theorem dX5_setsWith_5 : decode cX5_setsWith 5 = .ok (.aload_n 0, 1) := by decide +kernel
theorem dX5_setsWith_6 : decode cX5_setsWith 6 = .ok (.getfield 7, 3) := by decide +kernel
theorem dX5_setsWith_9 : decode cX5_setsWith 9 = .ok (.iconst 0, 1) := by decide +kernel
theorem dX5_setsWith_10 : decode cX5_setsWith 10 = .ok (.iaload, 1) := by decide +kernel
theorem dX5_setsWith_11 : decode cX5_setsWith 11 = .ok (.if_icmp .ge 26, 3) := by decide +kernel
theorem dX5_setsWith_14 : decode cX5_setsWith 14 = .ok (.iload_n 2, 1) := by decide +kernel
theorem dX5_setsWith_15 : decode cX5_setsWith 15 = .ok (.aload_n 0, 1) := by decide +kernel
theorem dX5_setsWith_16 : decode cX5_setsWith 16 = .ok (.iload_n 3, 1) := by decide +kernel
theorem dX5_setsWith_17 : decode cX5_setsWith 17 = .ok (.iload_n 1, 1) := by decide +kernel
theorem dX5_setsWith_18 : decode cX5_setsWith 18 = .ok (.invokevirtual 51, 3) := by decide +kernel
theorem dX5_setsWith_21 : decode cX5_setsWith 21 = .ok (.ifCond .eq 7, 3) := by decide +kernel
theorem dX5_setsWith_24 : decode cX5_setsWith 24 = .ok (.iconst 1, 1) := by decide +kernel
theorem dX5_setsWith_25 : decode cX5_setsWith 25 = .ok (.goto 4, 3) := by decide +kernel
theorem dX5_setsWith_28 : decode cX5_setsWith 28 = .ok (.iconst 0, 1) := by decide +kernel
theorem dX5_setsWith_29 : decode cX5_setsWith 29 = .ok (.iadd, 1) := by decide +kernel
theorem dX5_setsWith_30 : decode cX5_setsWith 30 = .ok (.istore_n 2, 1) := by decide +kernel
theorem dX5_setsWith_31 : decode cX5_setsWith 31 = .ok (.iinc 3 1, 3) := by decide +kernel
theorem dX5_setsWith_34 : decode cX5_setsWith 34 = .ok (.goto (-30), 3) := by decide +kernel
theorem dX5_setsWith_37 : decode cX5_setsWith 37 = .ok (.iload_n 2, 1) := by decide +kernel
theorem dX5_setsWith_38 : decode cX5_setsWith 38 = .ok (.ireturn, 1) := by decide +kernel
set_option maxRecDepth 20000 in
theorem ggX5_ofAll_X5_setsWith : GoodIn wsX5_ofAll wsX5_setsWith := goodIn_r _ [5, 6, 7, 8, 9, 4, 10, 11, 12, 13, 14, 15, 16, 17, 18, 19, 20, 21, 22, 23, 24, 25, 26, 27] (by decide +kernel) (by decide +kernel)
set_option maxRecDepth 20000 in
theorem gX5_ofAll_X5_setsWith : GoodIn wsX5_ofAll (wsV RX5 168 RX5 yX5_setsWith wsX5_setsWith) := goodIn_app (goodIn_of _ (by decide +kernel)) ggX5_ofAll_X5_setsWith
theorem dX5_ofAll_0 : decode cX5_ofAll 0 = .ok (.iload_n 1, 1) := by decide +kernel
theorem dX5_ofAll_1 : decode cX5_ofAll 1 = .ok (.ifCond .ge 6, 3) := by decide +kernel
theorem dX5_ofAll_4 : decode cX5_ofAll 4 = .ok (.bipush (-2), 2) := by decide +kernel
theorem dX5_ofAll_6 : decode cX5_ofAll 6 = .ok (.ireturn, 1) := by decide +kernel
theorem dX5_ofAll_7 : decode cX5_ofAll 7 = .ok (.iload_n 1, 1) := by decide +kernel
theorem dX5_ofAll_8 : decode cX5_ofAll 8 = .ok (.istore_n 2, 1) := by decide +kernel
theorem dX5_ofAll_9 : decode cX5_ofAll 9 = .ok (.iconst 0, 1) := by decide +kernel
theorem dX5_ofAll_10 : decode cX5_ofAll 10 = .ok (.istore_n 3, 1) := by decide +kernel
theorem dX5_ofAll_11 : decode cX5_ofAll 11 = .ok (.iload_n 3, 1) := by decide +kernel
theorem dX5_ofAll_12 : decode cX5_ofAll 12 = .ok (.sipush 2048, 3) := by decide +kernel
theorem dX5_ofAll_15 : decode cX5_ofAll 15 = .ok (.if_icmp .ge 29, 3) := by decide +kernel
theorem dX5_ofAll_18 : decode cX5_ofAll 18 = .ok (.aload_n 0, 1) := by decide +kernel
theorem dX5_ofAll_19 : decode cX5_ofAll 19 = .ok (.iload_n 3, 1) := by decide +kernel
theorem dX5_ofAll_20 : decode cX5_ofAll 20 = .ok (.invokevirtual 168, 3) := by decide +kernel
theorem dX5_ofAll_23 : decode cX5_ofAll 23 = .ok (.istore 4, 2) := by decide +kernel
theorem dX5_ofAll_25 : decode cX5_ofAll 25 = .ok (.iload_n 2, 1) := by decide +kernel
theorem dX5_ofAll_26 : decode cX5_ofAll 26 = .ok (.iload 4, 2) := by decide +kernel
theorem dX5_ofAll_28 : decode cX5_ofAll 28 = .ok (.if_icmp .ge 5, 3) := by decide +kernel
theorem dX5_ofAll_31 : decode cX5_ofAll 31 = .ok (.iload_n 3, 1) := by decide +kernel
theorem dX5_ofAll_32 : decode cX5_ofAll 32 = .ok (.ireturn, 1) := by decide +kernel
theorem dX5_ofAll_33 : decode cX5_ofAll 33 = .ok (.iload_n 2, 1) := by decide +kernel
theorem dX5_ofAll_34 : decode cX5_ofAll 34 = .ok (.iload 4, 2) := by decide +kernel
theorem dX5_ofAll_36 : decode cX5_ofAll 36 = .ok (.isub, 1) := by decide +kernel
theorem dX5_ofAll_37 : decode cX5_ofAll 37 = .ok (.istore_n 2, 1) := by decide +kernel
theorem dX5_ofAll_38 : decode cX5_ofAll 38 = .ok (.iinc 3 1, 3) := by decide +kernel
theorem dX5_ofAll_41 : decode cX5_ofAll 41 = .ok (.goto (-30), 3) := by decide +kernel
theorem dX5_ofAll_44 : decode cX5_ofAll 44 = .ok (.bipush (-5), 2) := by decide +kernel
theorem dX5_ofAll_46 : decode cX5_ofAll 46 = .ok (.ireturn, 1) := by decide +kernel
set_option maxRecDepth 20000 in
theorem ggX5_most_X5_setsWith : GoodIn wsX5_most wsX5_setsWith := goodIn_r _ [5, 6, 7, 8, 9, 4, 10, 11, 12, 13, 14, 15, 16, 17, 18, 19, 20, 21, 22, 23, 24, 25, 26, 27] (by decide +kernel) (by decide +kernel)
set_option maxRecDepth 20000 in
theorem gX5_most_X5_setsWith : GoodIn wsX5_most (wsV RX5 168 RX5 yX5_setsWith wsX5_setsWith) := goodIn_app (goodIn_of _ (by decide +kernel)) ggX5_most_X5_setsWith
theorem dX5_most_0 : decode cX5_most 0 = .ok (.bipush (-5), 2) := by decide +kernel
theorem dX5_most_2 : decode cX5_most 2 = .ok (.istore_n 1, 1) := by decide +kernel
theorem dX5_most_3 : decode cX5_most 3 = .ok (.iconst 0, 1) := by decide +kernel
theorem dX5_most_4 : decode cX5_most 4 = .ok (.istore_n 2, 1) := by decide +kernel
theorem dX5_most_5 : decode cX5_most 5 = .ok (.iconst 0, 1) := by decide +kernel
theorem dX5_most_6 : decode cX5_most 6 = .ok (.istore_n 3, 1) := by decide +kernel
theorem dX5_most_7 : decode cX5_most 7 = .ok (.iload_n 3, 1) := by decide +kernel
theorem dX5_most_8 : decode cX5_most 8 = .ok (.sipush 2048, 3) := by decide +kernel
theorem dX5_most_11 : decode cX5_most 11 = .ok (.if_icmp .ge 41, 3) := by decide +kernel
theorem dX5_most_14 : decode cX5_most 14 = .ok (.aload_n 0, 1) := by decide +kernel
theorem dX5_most_15 : decode cX5_most 15 = .ok (.iload_n 3, 1) := by decide +kernel
theorem dX5_most_16 : decode cX5_most 16 = .ok (.invokevirtual 168, 3) := by decide +kernel
theorem dX5_most_19 : decode cX5_most 19 = .ok (.istore 4, 2) := by decide +kernel
theorem dX5_most_21 : decode cX5_most 21 = .ok (.iload 4, 2) := by decide +kernel
theorem dX5_most_23 : decode cX5_most 23 = .ok (.iload_n 2, 1) := by decide +kernel
theorem dX5_most_24 : decode cX5_most 24 = .ok (.if_icmp .le 7, 3) := by decide +kernel
theorem dX5_most_27 : decode cX5_most 27 = .ok (.iload_n 3, 1) := by decide +kernel
theorem dX5_most_28 : decode cX5_most 28 = .ok (.goto 4, 3) := by decide +kernel
theorem dX5_most_31 : decode cX5_most 31 = .ok (.iload_n 1, 1) := by decide +kernel
theorem dX5_most_32 : decode cX5_most 32 = .ok (.istore_n 1, 1) := by decide +kernel
theorem dX5_most_33 : decode cX5_most 33 = .ok (.iload 4, 2) := by decide +kernel
theorem dX5_most_35 : decode cX5_most 35 = .ok (.iload_n 2, 1) := by decide +kernel
theorem dX5_most_36 : decode cX5_most 36 = .ok (.if_icmp .le 8, 3) := by decide +kernel
theorem dX5_most_39 : decode cX5_most 39 = .ok (.iload 4, 2) := by decide +kernel
theorem dX5_most_41 : decode cX5_most 41 = .ok (.goto 4, 3) := by decide +kernel
theorem dX5_most_44 : decode cX5_most 44 = .ok (.iload_n 2, 1) := by decide +kernel
theorem dX5_most_45 : decode cX5_most 45 = .ok (.istore_n 2, 1) := by decide +kernel
theorem dX5_most_46 : decode cX5_most 46 = .ok (.iinc 3 1, 3) := by decide +kernel
theorem dX5_most_49 : decode cX5_most 49 = .ok (.goto (-42), 3) := by decide +kernel
theorem dX5_most_52 : decode cX5_most 52 = .ok (.iload_n 1, 1) := by decide +kernel
theorem dX5_most_53 : decode cX5_most 53 = .ok (.ireturn, 1) := by decide +kernel
set_option maxRecDepth 20000 in
theorem ggX5_tollToDock_X5_isSet : GoodIn wsX5_tollToDock wsX5_isSet := goodIn_r _ [7, 1, 8, 9, 6, 10, 72, 73, 74, 75, 76, 77, 78, 79, 80, 81, 82, 83, 84] (by decide +kernel) (by decide +kernel)
set_option maxRecDepth 20000 in
theorem gX5_tollToDock_X5_isSet : GoodIn wsX5_tollToDock (wsV RX5 92 RX5 yX5_isSet wsX5_isSet) := goodIn_app (goodIn_of _ (by decide +kernel)) ggX5_tollToDock_X5_isSet
set_option maxRecDepth 20000 in
theorem ggX5_tollToDock_X5_copies : GoodIn wsX5_tollToDock wsX5_copies := goodIn_r _ [13] (by decide +kernel) (by decide +kernel)
set_option maxRecDepth 20000 in
theorem gX5_tollToDock_X5_copies : GoodIn wsX5_tollToDock (va_wsS RX5 35 yX5_copies wsX5_copies) := goodIn_app (goodIn_of _ (by decide +kernel)) ggX5_tollToDock_X5_copies
set_option maxRecDepth 20000 in
theorem ggX5_tollToDock_X5_docks : GoodIn wsX5_tollToDock wsX5_docks := goodIn_r _ [17, 18, 19, 20, 21, 6, 22, 1, 23, 24, 25, 26, 27, 28, 29, 30, 31, 32, 33, 34, 35, 36, 37, 38, 39, 40, 41, 42, 43, 44, 45, 46, 47, 48, 49, 50, 51, 52, 53, 54, 55, 56, 57, 58, 59, 60, 61, 62, 63, 64, 65, 66, 67, 68, 69, 70, 71, 72, 73, 74, 75, 76, 77, 78, 79, 80, 81, 82, 83, 84] (by decide +kernel) (by decide +kernel)
set_option maxRecDepth 20000 in
theorem gX5_tollToDock_X5_docks : GoodIn wsX5_tollToDock (wsV RX5 109 RX5 yX5_docks wsX5_docks) := goodIn_app (goodIn_of _ (by decide +kernel)) ggX5_tollToDock_X5_docks
theorem dX5_tollToDock_0 : decode cX5_tollToDock 0 = .ok (.aload_n 0, 1) := by decide +kernel
theorem dX5_tollToDock_1 : decode cX5_tollToDock 1 = .ok (.iload_n 1, 1) := by decide +kernel
theorem dX5_tollToDock_2 : decode cX5_tollToDock 2 = .ok (.invokevirtual 92, 3) := by decide +kernel
theorem dX5_tollToDock_5 : decode cX5_tollToDock 5 = .ok (.ifCond .ne 5, 3) := by decide +kernel
theorem dX5_tollToDock_8 : decode cX5_tollToDock 8 = .ok (.iconst (-1), 1) := by decide +kernel
theorem dX5_tollToDock_9 : decode cX5_tollToDock 9 = .ok (.ireturn, 1) := by decide +kernel
theorem dX5_tollToDock_10 : decode cX5_tollToDock 10 = .ok (.aload_n 0, 1) := by decide +kernel
theorem dX5_tollToDock_11 : decode cX5_tollToDock 11 = .ok (.getfield 7, 3) := by decide +kernel
theorem dX5_tollToDock_14 : decode cX5_tollToDock 14 = .ok (.iconst 0, 1) := by decide +kernel
theorem dX5_tollToDock_15 : decode cX5_tollToDock 15 = .ok (.aload_n 0, 1) := by decide +kernel
theorem dX5_tollToDock_16 : decode cX5_tollToDock 16 = .ok (.getfield 19, 3) := by decide +kernel
theorem dX5_tollToDock_19 : decode cX5_tollToDock 19 = .ok (.iconst 0, 1) := by decide +kernel
theorem dX5_tollToDock_20 : decode cX5_tollToDock 20 = .ok (.invokestatic 35, 3) := by decide +kernel
theorem dX5_tollToDock_23 : decode cX5_tollToDock 23 = .ok (.aload_n 0, 1) := by decide +kernel
theorem dX5_tollToDock_24 : decode cX5_tollToDock 24 = .ok (.iload_n 1, 1) := by decide +kernel
theorem dX5_tollToDock_25 : decode cX5_tollToDock 25 = .ok (.invokevirtual 109, 3) := by decide +kernel
theorem dX5_tollToDock_28 : decode cX5_tollToDock 28 = .ok (.istore_n 2, 1) := by decide +kernel
theorem dX5_tollToDock_29 : decode cX5_tollToDock 29 = .ok (.aload_n 0, 1) := by decide +kernel
theorem dX5_tollToDock_30 : decode cX5_tollToDock 30 = .ok (.getfield 19, 3) := by decide +kernel
theorem dX5_tollToDock_33 : decode cX5_tollToDock 33 = .ok (.iconst 0, 1) := by decide +kernel
theorem dX5_tollToDock_34 : decode cX5_tollToDock 34 = .ok (.aload_n 0, 1) := by decide +kernel
theorem dX5_tollToDock_35 : decode cX5_tollToDock 35 = .ok (.getfield 7, 3) := by decide +kernel
theorem dX5_tollToDock_38 : decode cX5_tollToDock 38 = .ok (.iconst 0, 1) := by decide +kernel
theorem dX5_tollToDock_39 : decode cX5_tollToDock 39 = .ok (.invokestatic 35, 3) := by decide +kernel
theorem dX5_tollToDock_42 : decode cX5_tollToDock 42 = .ok (.iload_n 2, 1) := by decide +kernel
theorem dX5_tollToDock_43 : decode cX5_tollToDock 43 = .ok (.ireturn, 1) := by decide +kernel
set_option maxRecDepth 20000 in
theorem ggX5_overAll_X5_set : GoodIn wsX5_overAll wsX5_set := goodIn_r _ [6, 7, 8, 9, 5, 10, 1, 11, 12, 13, 14, 15, 16, 17, 18, 19, 20, 21, 22, 23, 24, 25, 26, 27, 28, 29, 30, 31, 32, 33, 34, 35, 36, 37, 38, 39, 40, 41, 42, 43, 44, 45, 46, 47, 48, 49, 50, 51, 52, 53, 54, 55, 56, 57, 58, 59, 60, 61, 62, 63, 64, 65, 66, 67, 68, 69, 70, 71, 72, 73, 74] (by decide +kernel) (by decide +kernel)
set_option maxRecDepth 20000 in
theorem gX5_overAll_X5_set : GoodIn wsX5_overAll (wsV RX5 171 RX5 yX5_set wsX5_set) := goodIn_app (goodIn_of _ (by decide +kernel)) ggX5_overAll_X5_set
set_option maxRecDepth 20000 in
theorem ggX5_overAll_X5_kindOf : GoodIn wsX5_overAll wsX5_kindOf := goodIn_r _ [33, 22, 23, 24, 5, 25, 1, 62, 63, 64, 65, 66, 67, 68, 69, 70, 71, 72, 73, 74] (by decide +kernel) (by decide +kernel)
set_option maxRecDepth 20000 in
theorem gX5_overAll_X5_kindOf : GoodIn wsX5_overAll (wsV RX5 62 RX5 yX5_kindOf wsX5_kindOf) := goodIn_app (goodIn_of _ (by decide +kernel)) ggX5_overAll_X5_kindOf
theorem dX5_overAll_0 : decode cX5_overAll 0 = .ok (.iconst 0, 1) := by decide +kernel
theorem dX5_overAll_1 : decode cX5_overAll 1 = .ok (.istore_n 2, 1) := by decide +kernel
theorem dX5_overAll_2 : decode cX5_overAll 2 = .ok (.iconst 0, 1) := by decide +kernel
theorem dX5_overAll_3 : decode cX5_overAll 3 = .ok (.istore_n 3, 1) := by decide +kernel
theorem dX5_overAll_4 : decode cX5_overAll 4 = .ok (.iload_n 3, 1) := by decide +kernel
theorem dX5_overAll_5 : decode cX5_overAll 5 = .ok (.aload_n 0, 1) := by decide +kernel
theorem dX5_overAll_6 : decode cX5_overAll 6 = .ok (.getfield 7, 3) := by decide +kernel
theorem dX5_overAll_9 : decode cX5_overAll 9 = .ok (.iconst 0, 1) := by decide +kernel
theorem dX5_overAll_10 : decode cX5_overAll 10 = .ok (.iaload, 1) := by decide +kernel
theorem dX5_overAll_11 : decode cX5_overAll 11 = .ok (.if_icmp .ge 65, 3) := by decide +kernel
theorem dX5_overAll_14 : decode cX5_overAll 14 = .ok (.iload_n 1, 1) := by decide +kernel
theorem dX5_overAll_15 : decode cX5_overAll 15 = .ok (.bipush 20, 2) := by decide +kernel
theorem dX5_overAll_17 : decode cX5_overAll 17 = .ok (.if_icmp .ge 15, 3) := by decide +kernel
theorem dX5_overAll_20 : decode cX5_overAll 20 = .ok (.iload_n 2, 1) := by decide +kernel
theorem dX5_overAll_21 : decode cX5_overAll 21 = .ok (.aload_n 0, 1) := by decide +kernel
theorem dX5_overAll_22 : decode cX5_overAll 22 = .ok (.iload_n 3, 1) := by decide +kernel
theorem dX5_overAll_23 : decode cX5_overAll 23 = .ok (.iload_n 1, 1) := by decide +kernel
theorem dX5_overAll_24 : decode cX5_overAll 24 = .ok (.invokevirtual 171, 3) := by decide +kernel
theorem dX5_overAll_27 : decode cX5_overAll 27 = .ok (.iadd, 1) := by decide +kernel
theorem dX5_overAll_28 : decode cX5_overAll 28 = .ok (.istore_n 2, 1) := by decide +kernel
theorem dX5_overAll_29 : decode cX5_overAll 29 = .ok (.goto 41, 3) := by decide +kernel
theorem dX5_overAll_32 : decode cX5_overAll 32 = .ok (.iconst 0, 1) := by decide +kernel
theorem dX5_overAll_33 : decode cX5_overAll 33 = .ok (.istore 4, 2) := by decide +kernel
theorem dX5_overAll_35 : decode cX5_overAll 35 = .ok (.iload 4, 2) := by decide +kernel
theorem dX5_overAll_37 : decode cX5_overAll 37 = .ok (.bipush 8, 2) := by decide +kernel
theorem dX5_overAll_39 : decode cX5_overAll 39 = .ok (.if_icmp .ge 31, 3) := by decide +kernel
theorem dX5_overAll_42 : decode cX5_overAll 42 = .ok (.iload_n 2, 1) := by decide +kernel
theorem dX5_overAll_43 : decode cX5_overAll 43 = .ok (.aload_n 0, 1) := by decide +kernel
theorem dX5_overAll_44 : decode cX5_overAll 44 = .ok (.iload_n 3, 1) := by decide +kernel
theorem dX5_overAll_45 : decode cX5_overAll 45 = .ok (.iload 4, 2) := by decide +kernel
theorem dX5_overAll_47 : decode cX5_overAll 47 = .ok (.invokevirtual 62, 3) := by decide +kernel
theorem dX5_overAll_50 : decode cX5_overAll 50 = .ok (.iload_n 1, 1) := by decide +kernel
theorem dX5_overAll_51 : decode cX5_overAll 51 = .ok (.bipush 20, 2) := by decide +kernel
theorem dX5_overAll_53 : decode cX5_overAll 53 = .ok (.isub, 1) := by decide +kernel
theorem dX5_overAll_54 : decode cX5_overAll 54 = .ok (.if_icmp .ne 7, 3) := by decide +kernel
theorem dX5_overAll_57 : decode cX5_overAll 57 = .ok (.iconst 1, 1) := by decide +kernel
theorem dX5_overAll_58 : decode cX5_overAll 58 = .ok (.goto 4, 3) := by decide +kernel
theorem dX5_overAll_61 : decode cX5_overAll 61 = .ok (.iconst 0, 1) := by decide +kernel
theorem dX5_overAll_62 : decode cX5_overAll 62 = .ok (.iadd, 1) := by decide +kernel
theorem dX5_overAll_63 : decode cX5_overAll 63 = .ok (.istore_n 2, 1) := by decide +kernel
theorem dX5_overAll_64 : decode cX5_overAll 64 = .ok (.iinc 4 1, 3) := by decide +kernel
theorem dX5_overAll_67 : decode cX5_overAll 67 = .ok (.goto (-32), 3) := by decide +kernel
theorem dX5_overAll_70 : decode cX5_overAll 70 = .ok (.iinc 3 1, 3) := by decide +kernel
theorem dX5_overAll_73 : decode cX5_overAll 73 = .ok (.goto (-69), 3) := by decide +kernel
theorem dX5_overAll_76 : decode cX5_overAll 76 = .ok (.iload_n 2, 1) := by decide +kernel
theorem dX5_overAll_77 : decode cX5_overAll 77 = .ok (.ireturn, 1) := by decide +kernel
set_option maxRecDepth 20000 in
theorem ggX5_different_X5_setsWith : GoodIn wsX5_different wsX5_setsWith := goodIn_r _ [5, 6, 7, 8, 9, 4, 10, 11, 12, 13, 14, 15, 16, 17, 18, 19, 20, 21, 22, 23, 24, 25, 26, 27] (by decide +kernel) (by decide +kernel)
set_option maxRecDepth 20000 in
theorem gX5_different_X5_setsWith : GoodIn wsX5_different (wsV RX5 168 RX5 yX5_setsWith wsX5_setsWith) := goodIn_app (goodIn_of _ (by decide +kernel)) ggX5_different_X5_setsWith
theorem dX5_different_0 : decode cX5_different 0 = .ok (.iconst 0, 1) := by decide +kernel
theorem dX5_different_1 : decode cX5_different 1 = .ok (.istore_n 1, 1) := by decide +kernel
theorem dX5_different_2 : decode cX5_different 2 = .ok (.iconst 0, 1) := by decide +kernel
theorem dX5_different_3 : decode cX5_different 3 = .ok (.istore_n 2, 1) := by decide +kernel
theorem dX5_different_4 : decode cX5_different 4 = .ok (.iload_n 2, 1) := by decide +kernel
theorem dX5_different_5 : decode cX5_different 5 = .ok (.sipush 2048, 3) := by decide +kernel
theorem dX5_different_8 : decode cX5_different 8 = .ok (.if_icmp .ge 25, 3) := by decide +kernel
theorem dX5_different_11 : decode cX5_different 11 = .ok (.iload_n 1, 1) := by decide +kernel
theorem dX5_different_12 : decode cX5_different 12 = .ok (.aload_n 0, 1) := by decide +kernel
theorem dX5_different_13 : decode cX5_different 13 = .ok (.iload_n 2, 1) := by decide +kernel
theorem dX5_different_14 : decode cX5_different 14 = .ok (.invokevirtual 168, 3) := by decide +kernel
theorem dX5_different_17 : decode cX5_different 17 = .ok (.ifCond .le 7, 3) := by decide +kernel
theorem dX5_different_20 : decode cX5_different 20 = .ok (.iconst 1, 1) := by decide +kernel
theorem dX5_different_21 : decode cX5_different 21 = .ok (.goto 4, 3) := by decide +kernel
theorem dX5_different_24 : decode cX5_different 24 = .ok (.iconst 0, 1) := by decide +kernel
theorem dX5_different_25 : decode cX5_different 25 = .ok (.iadd, 1) := by decide +kernel
theorem dX5_different_26 : decode cX5_different 26 = .ok (.istore_n 1, 1) := by decide +kernel
theorem dX5_different_27 : decode cX5_different 27 = .ok (.iinc 2 1, 3) := by decide +kernel
theorem dX5_different_30 : decode cX5_different 30 = .ok (.goto (-26), 3) := by decide +kernel
theorem dX5_different_33 : decode cX5_different 33 = .ok (.iload_n 1, 1) := by decide +kernel
theorem dX5_different_34 : decode cX5_different 34 = .ok (.ireturn, 1) := by decide +kernel
set_option maxRecDepth 20000 in
theorem ggX5_count_X5_overAll : GoodIn wsX5_count wsX5_overAll := goodIn_r _ [8, 1, 9, 10, 11, 7, 12, 13, 14, 15, 16, 17, 18, 19, 20, 21, 22, 23, 24, 25, 26, 27, 28, 29, 30, 31, 32, 33, 34, 35, 36, 37, 38, 39, 40, 41, 42, 43, 44, 45, 46, 47, 48, 49, 50, 51, 52, 53, 54, 55, 56, 57, 58, 59, 60, 61, 62, 63, 64, 65, 66, 67, 76, 77, 78, 79, 80, 81, 82, 83, 84, 85, 86, 87, 88] (by decide +kernel) (by decide +kernel)
set_option maxRecDepth 20000 in
theorem gX5_count_X5_overAll : GoodIn wsX5_count (wsV RX5 174 RX5 yX5_overAll wsX5_overAll) := goodIn_app (goodIn_of _ (by decide +kernel)) ggX5_count_X5_overAll
set_option maxRecDepth 20000 in
theorem ggX5_count_X5_different : GoodIn wsX5_count wsX5_different := goodIn_r _ [71, 72, 73, 74, 7, 75, 1, 24, 25, 26, 27, 28, 29, 30, 31, 76, 77, 78, 79, 80, 81, 82, 83, 84, 85, 86, 87, 88] (by decide +kernel) (by decide +kernel)
set_option maxRecDepth 20000 in
theorem gX5_count_X5_different : GoodIn wsX5_count (wsV RX5 177 RX5 yX5_different wsX5_different) := goodIn_app (goodIn_of _ (by decide +kernel)) ggX5_count_X5_different
theorem dX5_count_0 : decode cX5_count 0 = .ok (.iload_n 1, 1) := by decide +kernel
theorem dX5_count_1 : decode cX5_count 1 = .ok (.tableswitch 114 0 10 #[59, 66, 72, 72, 72, 81, 87, 93, 98, 104, 109], 59) := by decide +kernel
theorem dX5_count_60 : decode cX5_count 60 = .ok (.aload_n 0, 1) := by decide +kernel
theorem dX5_count_61 : decode cX5_count 61 = .ok (.getfield 7, 3) := by decide +kernel
theorem dX5_count_64 : decode cX5_count 64 = .ok (.iconst 0, 1) := by decide +kernel
theorem dX5_count_65 : decode cX5_count 65 = .ok (.iaload, 1) := by decide +kernel
theorem dX5_count_66 : decode cX5_count 66 = .ok (.ireturn, 1) := by decide +kernel
theorem dX5_count_67 : decode cX5_count 67 = .ok (.aload_n 0, 1) := by decide +kernel
theorem dX5_count_68 : decode cX5_count 68 = .ok (.iconst 4, 1) := by decide +kernel
theorem dX5_count_69 : decode cX5_count 69 = .ok (.invokevirtual 174, 3) := by decide +kernel
theorem dX5_count_72 : decode cX5_count 72 = .ok (.ireturn, 1) := by decide +kernel
theorem dX5_count_73 : decode cX5_count 73 = .ok (.aload_n 0, 1) := by decide +kernel
theorem dX5_count_74 : decode cX5_count 74 = .ok (.bipush 18, 2) := by decide +kernel
theorem dX5_count_76 : decode cX5_count 76 = .ok (.iload_n 1, 1) := by decide +kernel
theorem dX5_count_77 : decode cX5_count 77 = .ok (.iadd, 1) := by decide +kernel
theorem dX5_count_78 : decode cX5_count 78 = .ok (.invokevirtual 174, 3) := by decide +kernel
theorem dX5_count_81 : decode cX5_count 81 = .ok (.ireturn, 1) := by decide +kernel
theorem dX5_count_82 : decode cX5_count 82 = .ok (.aload_n 0, 1) := by decide +kernel
theorem dX5_count_83 : decode cX5_count 83 = .ok (.iconst 2, 1) := by decide +kernel
theorem dX5_count_84 : decode cX5_count 84 = .ok (.invokevirtual 174, 3) := by decide +kernel
theorem dX5_count_87 : decode cX5_count 87 = .ok (.ireturn, 1) := by decide +kernel
theorem dX5_count_88 : decode cX5_count 88 = .ok (.aload_n 0, 1) := by decide +kernel
theorem dX5_count_89 : decode cX5_count 89 = .ok (.iconst 0, 1) := by decide +kernel
theorem dX5_count_90 : decode cX5_count 90 = .ok (.invokevirtual 174, 3) := by decide +kernel
theorem dX5_count_93 : decode cX5_count 93 = .ok (.ireturn, 1) := by decide +kernel
theorem dX5_count_94 : decode cX5_count 94 = .ok (.aload_n 0, 1) := by decide +kernel
theorem dX5_count_95 : decode cX5_count 95 = .ok (.invokevirtual 177, 3) := by decide +kernel
theorem dX5_count_98 : decode cX5_count 98 = .ok (.ireturn, 1) := by decide +kernel
theorem dX5_count_99 : decode cX5_count 99 = .ok (.aload_n 0, 1) := by decide +kernel
theorem dX5_count_100 : decode cX5_count 100 = .ok (.iconst 5, 1) := by decide +kernel
theorem dX5_count_101 : decode cX5_count 101 = .ok (.invokevirtual 174, 3) := by decide +kernel
theorem dX5_count_104 : decode cX5_count 104 = .ok (.ireturn, 1) := by decide +kernel
theorem dX5_count_105 : decode cX5_count 105 = .ok (.aload_n 0, 1) := by decide +kernel
theorem dX5_count_106 : decode cX5_count 106 = .ok (.getfield 31, 3) := by decide +kernel
theorem dX5_count_109 : decode cX5_count 109 = .ok (.ireturn, 1) := by decide +kernel
theorem dX5_count_110 : decode cX5_count 110 = .ok (.aload_n 0, 1) := by decide +kernel
theorem dX5_count_111 : decode cX5_count 111 = .ok (.getfield 136, 3) := by decide +kernel
theorem dX5_count_114 : decode cX5_count 114 = .ok (.ireturn, 1) := by decide +kernel
theorem dX5_count_115 : decode cX5_count 115 = .ok (.bipush (-2), 2) := by decide +kernel
theorem dX5_count_117 : decode cX5_count 117 = .ok (.ireturn, 1) := by decide +kernel
end
section
/-! The base: one memory for the class and the reference together, by roles; a judgement V that hides heap, frame and locals' array -/
abbrev Lk : Type := Launch × (Nat → Nat) × va_G × (Nat → ClassId) × (Nat → Prop)
abbrev Kx : Type := Program × Env × Room × State × MethodId × Array Value × List Frame × Method × Code × Nat × Nat × Nat × (State → Prop)
abbrev Mem : Type := Nat → va_E
abbrev Lvs : Type := List (Nat × Value)
/-- the reference to the cell of a role -/
abbrev rf (Λ : Lk) (r : Nat) : Value := .ref (Λ.2.1 r)
def nR : Nat := 212
def wl (ad : Nat → Nat) (C : Mem) : va_W := (List.range nR).map fun r => (ad r, C r)
theorem wl_get {ad : Nat → Nat} {C : Mem} {r : Nat} (h : r < nR) : (wl ad C)[r]? = some (ad r, C r) := by
  simp [wl, List.getElem?_range h]
theorem wl_set {ad : Nat → Nat} {C : Mem} {r : Nat} {e : va_E} (h : r < nR) : (wl ad C).set r (ad r, e) = wl ad (va_up C r e) := by
  have hl : r < (wl ad C).length := by simp [wl]; exact h
  apply List.ext_getElem?
  intro j
  by_cases hj : j = r
  · subst hj
    rw [List.getElem?_set_self hl, wl_get h, va_up_self]
  · rw [List.getElem?_set_ne (Ne.symm hj)]
    by_cases hn : j < nR
    · rw [wl_get hn, wl_get hn, va_up_ne _ _ hj]
    · rw [List.getElem?_eq_none (by simp [wl]; omega), List.getElem?_eq_none (by simp [wl]; omega)]
/-- the array classes: longs, ints, chars, rows of fleets, rows of harbours -/
def tysOf (cy : Nat → ClassId) : List (ClassId × FieldType) := [(cy 0, .long), (cy 1, .int), (cy 2, .char), (cy 3, .object "BoatSets$Fleet"), (cy 4, .object "BoatSets$Harbour")]
/-- the links among nest mates -/
def nst : List Cond := [.methodLinkNest RX0 54 yX4_isNumber "BoatSets", .methodLinkNest RX0 97 yX4_join "BoatSets", .methodLinkNest RX3 33 yX4_isNumber "BoatSets"]
theorem nst_warm {s U : State} (hW : s.WarmedH U.vm) (h : ∀ w ∈ nst, va_Nw w s) : ∀ w ∈ nst, va_Nw w U := by
  intro w hw
  have h1 := h w hw
  simp only [nst, List.mem_cons, List.not_mem_nil, or_false] at hw
  rcases hw with rfl | rfl | rfl <;> exact va_Nw.warmM hW h1
theorem nst_same {u U : State} (hv : u.vm = U.vm) (h : ∀ w ∈ nst, va_Nw w u) : ∀ w ∈ nst, va_Nw w U := by
  intro w hw
  have h1 := h w hw
  simp only [nst, List.mem_cons, List.not_mem_nil, or_false] at hw
  rcases hw with rfl | rfl | rfl <;> exact va_Nw.same rfl hv h1
/-- a state holds the memory C -/
def Hld (Λ : Lk) (C : Mem) (U : State) : Prop := va_P Λ.2.2.1 vwCl (wl Λ.2.1 C) U.heap ∧ va_D Λ.2.2.2.2 (wl Λ.2.1 C) ∧ va_K Λ.2.2.1 vwCl (tysOf Λ.2.2.2.1) U ∧ ∀ w ∈ nst, va_Nw w U
theorem Hld.blind {Λ : Lk} {C : Mem} {av : List Value} : FrameBlind (va_Pc av (Hld Λ C)) := fun a U g mk q => by
  obtain ⟨h0, h1, h2, h3, h4⟩ := q
  exact ⟨h0, h1, h2, va_K.moved (u := U) (U := U.calling g mk a) (Vm.Alike.refl U.vm) h3, nst_same (u := U) (U := U.calling g mk a) rfl h4⟩
/-- an end: the answer rv, the memory C -/
def QQ (Λ : Lk) (rv : Option Value) (C : Mem) : Array Value → State → Outcome → State → Prop := fun _ st oc t => (oc = .returned rv ∧ va_P Λ.2.2.1 vwCl (wl Λ.2.1 C) t.heap ∧ va_D Λ.2.2.2.2 (wl Λ.2.1 C)) ∧ va_F Λ.2.2.2.2 st t
/-- a contract: with the arguments av over the memory C the method answers rv and leaves C2 -/
def Con (Λ : Lk) (y : MethodName) (ws : List Cond) (rm : Room) (av : List Value) (C : Mem) (rv : Option Value) (C2 : Mem) : Prop := Met Λ.1 y ws rm (va_Pc av (Hld Λ C)) (QQ Λ rv C2) 0 0 Λ.2.2.2.2
/-- the judgement: from the memory C, at pc, with these locals and this stack, the goal is reached -/
def V (Λ : Lk) : Kx → Mem → Nat → Lvs → List Value → Prop
  | (p, e, R, s, m, args, below, meth, c, nL, kc, ks, Q), C, pc, lv, st => ∀ (H : Heap) (locs : List Loc) (ls : Array Slot), va_P Λ.2.2.1 vwCl (wl Λ.2.1 C) H → va_D Λ.2.2.2.2 (wl Λ.2.1 C) → va_S Λ.2.2.2.2 s.heap H locs → lv_has ls nL lv → W p Λ.1 e R s m args below meth c H locs kc ks Q (F0 m pc ls st)
/-- what every row needs: the machine, the code, the room, the words, the tables -/
def Ok (Λ : Lk) (R0 : Room) (cc : ByteArray) (Ts : List Cond) (own : String) (nL0 : Nat) : Kx → Prop
  | (p, _, R, s, m, args, _, _, c, nL, kc, ks, _) => CallFix p m c cc nL s args Ts own ∧ R = R0 ∧ nL = nL0 ∧ va_K Λ.2.2.1 vwCl (tysOf Λ.2.2.2.1) s ∧ (∀ w ∈ nst, va_Nw w s) ∧ kc ≤ R.cells ∧ ks ≤ R.slots
/-- what an end needs -/
def Rt (Λ : Lk) (ret : Option FieldType) (rv : Option Value) (C : Mem) : Kx → Prop
  | (_, _, _, s, _, args, below, meth, _, _, kc, ks, Q) => Q = MQ below (QQ Λ rv C) args s kc ks Λ.2.2.2.2 ∧ meth.sig.returnType = ret ∧ meth.locks = false
theorem con_start {Λ : Lk} {y : MethodName} {ws ws' : List Cond} {rm : Room} {cc : ByteArray} {maxL : Nat} {ret : Option FieldType} {av : List Value} {C C2 : Mem} {rv : Option Value} (hy : plainName y.cls = true) (hw : ws = Cond.code y cc maxL ret :: ws') (hn : (lg_sl av).length ≤ maxL)
    (body : ∀ κ : Kx, Ok Λ rm cc ws y.cls maxL κ → Rt Λ ret rv C2 κ → V Λ κ C 0 (lv_args 0 av) []) : Con Λ y ws rm av C rv C2 := by
  refine Met.ofW (cc := cc) (maxL := maxL) (ret := ret) hy hw ?_
  intro p e s m args below meth c s₁ B hml hv
  obtain ⟨rfl, hP, hD, hK, hN⟩ := hv
  have hts := atoms_spec (ws := ws) B.pre
  have h := body (p, e, (headSpec ws rm).room, s, m, av.toArray, below, meth, c, maxL, 0, 0, MQ below (QQ Λ rv C2) av.toArray s 0 0 Λ.2.2.2.2) ⟨⟨B.exec, B.bytes, hml, findClass_of_methodNamed B.named, hts⟩, rfl, rfl, hK, hN, Nat.zero_le _, Nat.zero_le _⟩ ⟨rfl, B.returns, B.notSynchronized⟩
  rw [lg_entry_eq]
  exact h s.heap [] _ hP hD va_S.rf (lv_entry av hn)
section ROWS
variable {Λ : Lk} {κ : Kx} {R0 : Room} {cc : ByteArray} {Ts : List Cond} {own : String} {nL0 : Nat} {C : Mem} {pc : Nat} {lv : Lvs} {st : List Value}
theorem v_sub (ks : List Nat) {lv' : Lvs} (h : lv_pick lv ks = lv') (k : V Λ κ C pc lv' st) : V Λ κ C pc lv st := by
  obtain ⟨p, e, R, s, m, args, below, meth, c, nL, kc, ks', Q⟩ := κ
  exact fun H locs ls hP hD hS hl => k H locs ls hP hD hS (lv_sub hl ks h)
theorem v_args {lv' : Lvs} (h : lv = lv') (k : V Λ κ C pc lv' st) : V Λ κ C pc lv st := h ▸ k
theorem v_st {st' : List Value} (h : st = st') (k : V Λ κ C pc lv st') : V Λ κ C pc lv st := h ▸ k
theorem v_mem {C' : Mem} (h : C = C') (k : V Λ κ C' pc lv st) : V Λ κ C pc lv st := h ▸ k
theorem v_top {v v' : Value} (h : v = v') (k : V Λ κ C pc lv (v' :: st)) : V Λ κ C pc lv (v :: st) := h ▸ k
theorem v_topi {x y : Int32} (h : x = y) (k : V Λ κ C pc lv (.int y :: st)) : V Λ κ C pc lv (.int x :: st) := h ▸ k
theorem v_topl {x y : Int64} (h : x = y) (k : V Λ κ C pc lv (.long y :: st)) : V Λ κ C pc lv (.long x :: st) := h ▸ k
theorem v_iconst (hC : Ok Λ R0 cc Ts own nL0 κ) {n : Int} {v : Int32} (hdg : decode cc pc = .ok (.iconst n, 1)) (hv : Int32.ofInt n = v) (k : V Λ κ C (pc + 1) lv (.int v :: st)) : V Λ κ C pc lv st := by
  obtain ⟨p, e, R, s, m, args, below, meth, c, nL, kc, ks', Q⟩ := κ
  exact fun H locs ls hP hD hS hl => lv_iconst hC.1.1 hC.1.2.1 hdg hv (k H locs ls hP hD hS hl)
theorem v_bipush (hC : Ok Λ R0 cc Ts own nL0 κ) {n : Int} {v : Int32} (hdg : decode cc pc = .ok (.bipush n, 2)) (hv : (Int8.ofInt n).toInt32 = v) (k : V Λ κ C (pc + 2) lv (.int v :: st)) : V Λ κ C pc lv st := by
  obtain ⟨p, e, R, s, m, args, below, meth, c, nL, kc, ks', Q⟩ := κ
  exact fun H locs ls hP hD hS hl => lv_bipush hC.1.1 hC.1.2.1 hdg hv (k H locs ls hP hD hS hl)
theorem v_sipush (hC : Ok Λ R0 cc Ts own nL0 κ) {n : Int} {v : Int32} (hdg : decode cc pc = .ok (.sipush n, 3)) (hv : (Int16.ofInt n).toInt32 = v) (k : V Λ κ C (pc + 3) lv (.int v :: st)) : V Λ κ C pc lv st := by
  obtain ⟨p, e, R, s, m, args, below, meth, c, nL, kc, ks', Q⟩ := κ
  exact fun H locs ls hP hD hS hl => lv_sipush hC.1.1 hC.1.2.1 hdg hv (k H locs ls hP hD hS hl)
theorem v_lconst (hC : Ok Λ R0 cc Ts own nL0 κ) {n : Fin 2} {v : Int64} (hdg : decode cc pc = .ok (.lconst n, 1)) (hv : Int64.ofNat (n : Nat) = v) (k : V Λ κ C (pc + 1) lv (.long v :: st)) : V Λ κ C pc lv st := by
  obtain ⟨p, e, R, s, m, args, below, meth, c, nL, kc, ks', Q⟩ := κ
  exact fun H locs ls hP hD hS hl => lv_lconst hC.1.1 hC.1.2.1 hdg hv (k H locs ls hP hD hS hl)
theorem v_ldc2 (hC : Ok Λ R0 cc Ts own nL0 κ) {index : Nat} {v : Int64} (hdg : decode cc pc = .ok (.ldc2_w index, 3)) (hw : Jvm.Cond.constantLong own index v ∈ Ts) (k : V Λ κ C (pc + 3) lv (.long v :: st)) : V Λ κ C pc lv st := by
  obtain ⟨p, e, R, s, m, args, below, meth, c, nL, kc, ks', Q⟩ := κ
  exact fun H locs ls hP hD hS hl => lv_ldc2 hC.1.1 hC.1.2.1 hC.1.2.2.2.1 (hC.1.2.2.2.2 _ hw) hdg (k H locs ls hP hD hS hl)
theorem v_iload_n (hC : Ok Λ R0 cc Ts own nL0 κ) {i : Fin 4} {x : Int32} (hdg : decode cc pc = .ok (.iload_n i, 1)) (j : Nat) (hj : lv[j]? = some ((i : Nat), .int x)) (k : V Λ κ C (pc + 1) lv (.int x :: st)) : V Λ κ C pc lv st := by
  obtain ⟨p, e, R, s, m, args, below, meth, c, nL, kc, ks', Q⟩ := κ
  exact fun H locs ls hP hD hS hl => lv_iload_n hC.1.1 hC.1.2.1 hdg rfl (lv_at hl j hj) (k H locs ls hP hD hS hl)
theorem v_iload (hC : Ok Λ R0 cc Ts own nL0 κ) {i : Nat} {x : Int32} (hdg : decode cc pc = .ok (.iload i, 2)) (j : Nat) (hj : lv[j]? = some (i, .int x)) (k : V Λ κ C (pc + 2) lv (.int x :: st)) : V Λ κ C pc lv st := by
  obtain ⟨p, e, R, s, m, args, below, meth, c, nL, kc, ks', Q⟩ := κ
  exact fun H locs ls hP hD hS hl => lv_iload hC.1.1 hC.1.2.1 hdg (lv_at hl j hj) (k H locs ls hP hD hS hl)
theorem v_lload_n (hC : Ok Λ R0 cc Ts own nL0 κ) {i : Fin 4} {x : Int64} (hdg : decode cc pc = .ok (.lload_n i, 1)) (j : Nat) (hj : lv[j]? = some ((i : Nat), .long x)) (k : V Λ κ C (pc + 1) lv (.long x :: st)) : V Λ κ C pc lv st := by
  obtain ⟨p, e, R, s, m, args, below, meth, c, nL, kc, ks', Q⟩ := κ
  exact fun H locs ls hP hD hS hl => lv_lload_n hC.1.1 hC.1.2.1 hdg rfl (lv_at hl j hj) (k H locs ls hP hD hS hl)
theorem v_lload (hC : Ok Λ R0 cc Ts own nL0 κ) {i : Nat} {x : Int64} (hdg : decode cc pc = .ok (.lload i, 2)) (j : Nat) (hj : lv[j]? = some (i, .long x)) (k : V Λ κ C (pc + 2) lv (.long x :: st)) : V Λ κ C pc lv st := by
  obtain ⟨p, e, R, s, m, args, below, meth, c, nL, kc, ks', Q⟩ := κ
  exact fun H locs ls hP hD hS hl => lv_lload hC.1.1 hC.1.2.1 hdg (lv_at hl j hj) (k H locs ls hP hD hS hl)
theorem v_aload_n (hC : Ok Λ R0 cc Ts own nL0 κ) {i : Fin 4} {x : Nat} (hdg : decode cc pc = .ok (.aload_n i, 1)) (j : Nat) (hj : lv[j]? = some ((i : Nat), .ref x)) (k : V Λ κ C (pc + 1) lv (.ref x :: st)) : V Λ κ C pc lv st := by
  obtain ⟨p, e, R, s, m, args, below, meth, c, nL, kc, ks', Q⟩ := κ
  exact fun H locs ls hP hD hS hl => lv_aload_n hC.1.1 hC.1.2.1 hdg rfl (lv_at hl j hj) (k H locs ls hP hD hS hl)
theorem v_aload (hC : Ok Λ R0 cc Ts own nL0 κ) {i : Nat} {x : Nat} (hdg : decode cc pc = .ok (.aload i, 2)) (j : Nat) (hj : lv[j]? = some (i, .ref x)) (k : V Λ κ C (pc + 2) lv (.ref x :: st)) : V Λ κ C pc lv st := by
  obtain ⟨p, e, R, s, m, args, below, meth, c, nL, kc, ks', Q⟩ := κ
  exact fun H locs ls hP hD hS hl => lv_aload hC.1.1 hC.1.2.1 hdg (lv_at hl j hj) (k H locs ls hP hD hS hl)
theorem v_istore_n (hC : Ok Λ R0 cc Ts own nL0 κ) {i : Fin 4} {x : Int32} {lv' : Lvs} (hdg : decode cc pc = .ok (.istore_n i, 1)) (hn : (i : Nat) < nL0) (hv : ((i : Nat), Value.int x) :: lv.filter (fun q => !(q.1 == (i : Nat)) && !(q.1 + 1 == (i : Nat) && q.2.category == 2)) = lv') (k : V Λ κ C (pc + 1) lv' st) : V Λ κ C pc lv (.int x :: st) := by
  obtain ⟨p, e, R, s, m, args, below, meth, c, nL, kc, ks', Q⟩ := κ
  exact fun H locs ls hP hD hS hl => lv_istore_n hC.1.1 hC.1.2.1 hdg rfl hl (by rw [hC.2.2.1]; exact hn) hv (fun ls hl => k H locs ls hP hD hS hl)
theorem v_istore (hC : Ok Λ R0 cc Ts own nL0 κ) {i : Nat} {x : Int32} {lv' : Lvs} (hdg : decode cc pc = .ok (.istore i, 2)) (hn : i < nL0) (hv : (i, Value.int x) :: lv.filter (fun q => !(q.1 == i) && !(q.1 + 1 == i && q.2.category == 2)) = lv') (k : V Λ κ C (pc + 2) lv' st) : V Λ κ C pc lv (.int x :: st) := by
  obtain ⟨p, e, R, s, m, args, below, meth, c, nL, kc, ks', Q⟩ := κ
  exact fun H locs ls hP hD hS hl => lv_istore hC.1.1 hC.1.2.1 hdg hl (by rw [hC.2.2.1]; exact hn) hv (fun ls hl => k H locs ls hP hD hS hl)
theorem v_lstore_n (hC : Ok Λ R0 cc Ts own nL0 κ) {i : Fin 4} {x : Int64} {lv' : Lvs} (hdg : decode cc pc = .ok (.lstore_n i, 1)) (hn : (i : Nat) + 1 < nL0) (hv : ((i : Nat), Value.long x) :: lv.filter (fun q => !(q.1 == (i : Nat)) && (!(q.1 == (i : Nat) + 1) && !(q.1 + 1 == (i : Nat) && q.2.category == 2))) = lv') (k : V Λ κ C (pc + 1) lv' st) : V Λ κ C pc lv (.long x :: st) := by
  obtain ⟨p, e, R, s, m, args, below, meth, c, nL, kc, ks', Q⟩ := κ
  exact fun H locs ls hP hD hS hl => lv_lstore_n hC.1.1 hC.1.2.1 hdg rfl hl (by rw [hC.2.2.1]; exact hn) hv (fun ls hl => k H locs ls hP hD hS hl)
theorem v_lstore (hC : Ok Λ R0 cc Ts own nL0 κ) {i : Nat} {x : Int64} {lv' : Lvs} (hdg : decode cc pc = .ok (.lstore i, 2)) (hn : i + 1 < nL0) (hv : (i, Value.long x) :: lv.filter (fun q => !(q.1 == i) && (!(q.1 == i + 1) && !(q.1 + 1 == i && q.2.category == 2))) = lv') (k : V Λ κ C (pc + 2) lv' st) : V Λ κ C pc lv (.long x :: st) := by
  obtain ⟨p, e, R, s, m, args, below, meth, c, nL, kc, ks', Q⟩ := κ
  exact fun H locs ls hP hD hS hl => lv_lstore hC.1.1 hC.1.2.1 hdg hl (by rw [hC.2.2.1]; exact hn) hv (fun ls hl => k H locs ls hP hD hS hl)
theorem v_astore_n (hC : Ok Λ R0 cc Ts own nL0 κ) {i : Fin 4} {x : Nat} {lv' : Lvs} (hdg : decode cc pc = .ok (.astore_n i, 1)) (hn : (i : Nat) < nL0) (hv : ((i : Nat), Value.ref x) :: lv.filter (fun q => !(q.1 == (i : Nat)) && !(q.1 + 1 == (i : Nat) && q.2.category == 2)) = lv') (k : V Λ κ C (pc + 1) lv' st) : V Λ κ C pc lv (.ref x :: st) := by
  obtain ⟨p, e, R, s, m, args, below, meth, c, nL, kc, ks', Q⟩ := κ
  exact fun H locs ls hP hD hS hl => lv_astore_n hC.1.1 hC.1.2.1 hdg rfl hl (by rw [hC.2.2.1]; exact hn) hv (fun ls hl => k H locs ls hP hD hS hl)
theorem v_astore (hC : Ok Λ R0 cc Ts own nL0 κ) {i : Nat} {x : Nat} {lv' : Lvs} (hdg : decode cc pc = .ok (.astore i, 2)) (hn : i < nL0) (hv : (i, Value.ref x) :: lv.filter (fun q => !(q.1 == i) && !(q.1 + 1 == i && q.2.category == 2)) = lv') (k : V Λ κ C (pc + 2) lv' st) : V Λ κ C pc lv (.ref x :: st) := by
  obtain ⟨p, e, R, s, m, args, below, meth, c, nL, kc, ks', Q⟩ := κ
  exact fun H locs ls hP hD hS hl => lv_astore hC.1.1 hC.1.2.1 hdg hl (by rw [hC.2.2.1]; exact hn) hv (fun ls hl => k H locs ls hP hD hS hl)
theorem v_iinc (hC : Ok Λ R0 cc Ts own nL0 κ) {i j : Nat} {n : Int} {x v : Int32} {lv' : Lvs} (hdg : decode cc pc = .ok (.iinc i n, 3)) (hk : lv[j]? = some (i, .int x)) (hx : x + Int32.ofInt n = v) (hn : i < nL0) (hv : (i, Value.int v) :: lv.filter (fun q => !(q.1 == i) && !(q.1 + 1 == i && q.2.category == 2)) = lv') (k : V Λ κ C (pc + 3) lv' st) : V Λ κ C pc lv st := by
  obtain ⟨p, e, R, s, m, args, below, meth, c, nL, kc, ks', Q⟩ := κ
  exact fun H locs ls hP hD hS hl => lv_iinc hC.1.1 hC.1.2.1 hdg hl hk hx (by rw [hC.2.2.1]; exact hn) hv (fun ls hl => k H locs ls hP hD hS hl)
theorem v_iadd (hC : Ok Λ R0 cc Ts own nL0 κ) {x y : Int32} (hdg : decode cc pc = .ok (.iadd, 1)) (k : V Λ κ C (pc + 1) lv (.int (x + y) :: st)) : V Λ κ C pc lv (.int y :: .int x :: st) := by
  obtain ⟨p, e, R, s, m, args, below, meth, c, nL, kc, ks', Q⟩ := κ
  exact fun H locs ls hP hD hS hl => lv_iadd hC.1.1 hC.1.2.1 hdg (k H locs ls hP hD hS hl)
theorem v_isub (hC : Ok Λ R0 cc Ts own nL0 κ) {x y : Int32} (hdg : decode cc pc = .ok (.isub, 1)) (k : V Λ κ C (pc + 1) lv (.int (x - y) :: st)) : V Λ κ C pc lv (.int y :: .int x :: st) := by
  obtain ⟨p, e, R, s, m, args, below, meth, c, nL, kc, ks', Q⟩ := κ
  exact fun H locs ls hP hD hS hl => lv_isub hC.1.1 hC.1.2.1 hdg (k H locs ls hP hD hS hl)
theorem v_imul (hC : Ok Λ R0 cc Ts own nL0 κ) {x y : Int32} (hdg : decode cc pc = .ok (.imul, 1)) (k : V Λ κ C (pc + 1) lv (.int (x * y) :: st)) : V Λ κ C pc lv (.int y :: .int x :: st) := by
  obtain ⟨p, e, R, s, m, args, below, meth, c, nL, kc, ks', Q⟩ := κ
  exact fun H locs ls hP hD hS hl => lv_imul hC.1.1 hC.1.2.1 hdg (k H locs ls hP hD hS hl)
theorem v_iand (hC : Ok Λ R0 cc Ts own nL0 κ) {x y : Int32} (hdg : decode cc pc = .ok (.iand, 1)) (k : V Λ κ C (pc + 1) lv (.int (x &&& y) :: st)) : V Λ κ C pc lv (.int y :: .int x :: st) := by
  obtain ⟨p, e, R, s, m, args, below, meth, c, nL, kc, ks', Q⟩ := κ
  exact fun H locs ls hP hD hS hl => lv_iand hC.1.1 hC.1.2.1 hdg (k H locs ls hP hD hS hl)
theorem v_ior (hC : Ok Λ R0 cc Ts own nL0 κ) {x y : Int32} (hdg : decode cc pc = .ok (.ior, 1)) (k : V Λ κ C (pc + 1) lv (.int (x ||| y) :: st)) : V Λ κ C pc lv (.int y :: .int x :: st) := by
  obtain ⟨p, e, R, s, m, args, below, meth, c, nL, kc, ks', Q⟩ := κ
  exact fun H locs ls hP hD hS hl => lv_ior hC.1.1 hC.1.2.1 hdg (k H locs ls hP hD hS hl)
theorem v_ixor (hC : Ok Λ R0 cc Ts own nL0 κ) {x y : Int32} (hdg : decode cc pc = .ok (.ixor, 1)) (k : V Λ κ C (pc + 1) lv (.int (x ^^^ y) :: st)) : V Λ κ C pc lv (.int y :: .int x :: st) := by
  obtain ⟨p, e, R, s, m, args, below, meth, c, nL, kc, ks', Q⟩ := κ
  exact fun H locs ls hP hD hS hl => lv_ixor hC.1.1 hC.1.2.1 hdg (k H locs ls hP hD hS hl)
theorem v_idiv (hC : Ok Λ R0 cc Ts own nL0 κ) {x y : Int32} (hdg : decode cc pc = .ok (.idiv, 1)) (hne : ¬ y = 0) (k : V Λ κ C (pc + 1) lv (.int (x / y) :: st)) : V Λ κ C pc lv (.int y :: .int x :: st) := by
  obtain ⟨p, e, R, s, m, args, below, meth, c, nL, kc, ks', Q⟩ := κ
  exact fun H locs ls hP hD hS hl => lv_idiv hC.1.1 hC.1.2.1 hdg hne (k H locs ls hP hD hS hl)
theorem v_irem (hC : Ok Λ R0 cc Ts own nL0 κ) {x y : Int32} (hdg : decode cc pc = .ok (.irem, 1)) (hne : ¬ y = 0) (k : V Λ κ C (pc + 1) lv (.int (x - x / y * y) :: st)) : V Λ κ C pc lv (.int y :: .int x :: st) := by
  obtain ⟨p, e, R, s, m, args, below, meth, c, nL, kc, ks', Q⟩ := κ
  exact fun H locs ls hP hD hS hl => lv_irem hC.1.1 hC.1.2.1 hdg hne (k H locs ls hP hD hS hl)
theorem v_ishl (hC : Ok Λ R0 cc Ts own nL0 κ) {x y : Int32} (hdg : decode cc pc = .ok (.ishl, 1)) (k : V Λ κ C (pc + 1) lv (.int (x <<< (y &&& 31)) :: st)) : V Λ κ C pc lv (.int y :: .int x :: st) := by
  obtain ⟨p, e, R, s, m, args, below, meth, c, nL, kc, ks', Q⟩ := κ
  exact fun H locs ls hP hD hS hl => lv_ishl hC.1.1 hC.1.2.1 hdg (k H locs ls hP hD hS hl)
theorem v_ishr (hC : Ok Λ R0 cc Ts own nL0 κ) {x y : Int32} (hdg : decode cc pc = .ok (.ishr, 1)) (k : V Λ κ C (pc + 1) lv (.int (x >>> (y &&& 31)) :: st)) : V Λ κ C pc lv (.int y :: .int x :: st) := by
  obtain ⟨p, e, R, s, m, args, below, meth, c, nL, kc, ks', Q⟩ := κ
  exact fun H locs ls hP hD hS hl => lv_ishr hC.1.1 hC.1.2.1 hdg (k H locs ls hP hD hS hl)
theorem v_ladd (hC : Ok Λ R0 cc Ts own nL0 κ) {x y : Int64} (hdg : decode cc pc = .ok (.ladd, 1)) (k : V Λ κ C (pc + 1) lv (.long (x + y) :: st)) : V Λ κ C pc lv (.long y :: .long x :: st) := by
  obtain ⟨p, e, R, s, m, args, below, meth, c, nL, kc, ks', Q⟩ := κ
  exact fun H locs ls hP hD hS hl => lv_ladd hC.1.1 hC.1.2.1 hdg (k H locs ls hP hD hS hl)
theorem v_lsub (hC : Ok Λ R0 cc Ts own nL0 κ) {x y : Int64} (hdg : decode cc pc = .ok (.lsub, 1)) (k : V Λ κ C (pc + 1) lv (.long (x - y) :: st)) : V Λ κ C pc lv (.long y :: .long x :: st) := by
  obtain ⟨p, e, R, s, m, args, below, meth, c, nL, kc, ks', Q⟩ := κ
  exact fun H locs ls hP hD hS hl => lv_lsub hC.1.1 hC.1.2.1 hdg (k H locs ls hP hD hS hl)
theorem v_land (hC : Ok Λ R0 cc Ts own nL0 κ) {x y : Int64} (hdg : decode cc pc = .ok (.land, 1)) (k : V Λ κ C (pc + 1) lv (.long (x &&& y) :: st)) : V Λ κ C pc lv (.long y :: .long x :: st) := by
  obtain ⟨p, e, R, s, m, args, below, meth, c, nL, kc, ks', Q⟩ := κ
  exact fun H locs ls hP hD hS hl => lv_land hC.1.1 hC.1.2.1 hdg (k H locs ls hP hD hS hl)
theorem v_lor (hC : Ok Λ R0 cc Ts own nL0 κ) {x y : Int64} (hdg : decode cc pc = .ok (.lor, 1)) (k : V Λ κ C (pc + 1) lv (.long (x ||| y) :: st)) : V Λ κ C pc lv (.long y :: .long x :: st) := by
  obtain ⟨p, e, R, s, m, args, below, meth, c, nL, kc, ks', Q⟩ := κ
  exact fun H locs ls hP hD hS hl => lv_lor hC.1.1 hC.1.2.1 hdg (k H locs ls hP hD hS hl)
theorem v_lxor (hC : Ok Λ R0 cc Ts own nL0 κ) {x y : Int64} (hdg : decode cc pc = .ok (.lxor, 1)) (k : V Λ κ C (pc + 1) lv (.long (x ^^^ y) :: st)) : V Λ κ C pc lv (.long y :: .long x :: st) := by
  obtain ⟨p, e, R, s, m, args, below, meth, c, nL, kc, ks', Q⟩ := κ
  exact fun H locs ls hP hD hS hl => lv_lxor hC.1.1 hC.1.2.1 hdg (k H locs ls hP hD hS hl)
theorem v_lneg (hC : Ok Λ R0 cc Ts own nL0 κ) {x : Int64} (hdg : decode cc pc = .ok (.lneg, 1)) (k : V Λ κ C (pc + 1) lv (.long (-x) :: st)) : V Λ κ C pc lv (.long x :: st) := by
  obtain ⟨p, e, R, s, m, args, below, meth, c, nL, kc, ks', Q⟩ := κ
  exact fun H locs ls hP hD hS hl => lv_lneg hC.1.1 hC.1.2.1 hdg (k H locs ls hP hD hS hl)
theorem v_lcmp (hC : Ok Λ R0 cc Ts own nL0 κ) {x y : Int64} (hdg : decode cc pc = .ok (.lcmp, 1)) (k : V Λ κ C (pc + 1) lv (.int (lg_cmp x y) :: st)) : V Λ κ C pc lv (.long y :: .long x :: st) := by
  obtain ⟨p, e, R, s, m, args, below, meth, c, nL, kc, ks', Q⟩ := κ
  exact fun H locs ls hP hD hS hl => W.lcmp hC.1.1 hC.1.2.1 hdg (k H locs ls hP hD hS hl)
theorem v_lshl (hC : Ok Λ R0 cc Ts own nL0 κ) {x v : Int64} {y : Int32} (hdg : decode cc pc = .ok (.lshl, 1)) (hv : x <<< (y.toInt64 &&& 63) = v) (k : V Λ κ C (pc + 1) lv (.long v :: st)) : V Λ κ C pc lv (.int y :: .long x :: st) := by
  obtain ⟨p, e, R, s, m, args, below, meth, c, nL, kc, ks', Q⟩ := κ
  exact fun H locs ls hP hD hS hl => lv_lshl hC.1.1 hC.1.2.1 hdg hv (k H locs ls hP hD hS hl)
theorem v_lushr (hC : Ok Λ R0 cc Ts own nL0 κ) {x v : Int64} {y : Int32} (hdg : decode cc pc = .ok (.lushr, 1)) (hv : (x.toUInt64 >>> (y.toInt64.toUInt64 &&& Int64.toUInt64 63)).toInt64 = v) (k : V Λ κ C (pc + 1) lv (.long v :: st)) : V Λ κ C pc lv (.int y :: .long x :: st) := by
  obtain ⟨p, e, R, s, m, args, below, meth, c, nL, kc, ks', Q⟩ := κ
  exact fun H locs ls hP hD hS hl => lv_lushr hC.1.1 hC.1.2.1 hdg hv (k H locs ls hP hD hS hl)
theorem v_l2i (hC : Ok Λ R0 cc Ts own nL0 κ) {x : Int64} {v : Int32} (hdg : decode cc pc = .ok (.l2i, 1)) (hv : x.toInt32 = v) (k : V Λ κ C (pc + 1) lv (.int v :: st)) : V Λ κ C pc lv (.long x :: st) := by
  obtain ⟨p, e, R, s, m, args, below, meth, c, nL, kc, ks', Q⟩ := κ
  exact fun H locs ls hP hD hS hl => lv_l2i hC.1.1 hC.1.2.1 hdg hv (k H locs ls hP hD hS hl)
theorem v_i2c (hC : Ok Λ R0 cc Ts own nL0 κ) {x v : Int32} (hdg : decode cc pc = .ok (.i2c, 1)) (hv : (x.toUInt32 % 65536).toInt32 = v) (k : V Λ κ C (pc + 1) lv (.int v :: st)) : V Λ κ C pc lv (.int x :: st) := by
  obtain ⟨p, e, R, s, m, args, below, meth, c, nL, kc, ks', Q⟩ := κ
  exact fun H locs ls hP hD hS hl => lv_i2c hC.1.1 hC.1.2.1 hdg hv (k H locs ls hP hD hS hl)
theorem v_dup (hC : Ok Λ R0 cc Ts own nL0 κ) {va : Value} (hdg : decode cc pc = .ok (.dup, 1)) (hva : va.category = 1) (k : V Λ κ C (pc + 1) lv (va :: va :: st)) : V Λ κ C pc lv (va :: st) := by
  obtain ⟨p, e, R, s, m, args, below, meth, c, nL, kc, ks', Q⟩ := κ
  exact fun H locs ls hP hD hS hl => lv_dup hC.1.1 hC.1.2.1 hdg hva (k H locs ls hP hD hS hl)
theorem v_pop (hC : Ok Λ R0 cc Ts own nL0 κ) {va : Value} (hdg : decode cc pc = .ok (.pop, 1)) (hva : va.category = 1) (k : V Λ κ C (pc + 1) lv st) : V Λ κ C pc lv (va :: st) := by
  obtain ⟨p, e, R, s, m, args, below, meth, c, nL, kc, ks', Q⟩ := κ
  exact fun H locs ls hP hD hS hl => lv_pop hC.1.1 hC.1.2.1 hdg hva (k H locs ls hP hD hS hl)
theorem v_dup2 (hC : Ok Λ R0 cc Ts own nL0 κ) {va vb : Value} (hdg : decode cc pc = .ok (.dup2, 1)) (hva : va.category = 1) (hvb : vb.category = 1) (k : V Λ κ C (pc + 1) lv (va :: vb :: va :: vb :: st)) : V Λ κ C pc lv (va :: vb :: st) := by
  obtain ⟨p, e, R, s, m, args, below, meth, c, nL, kc, ks', Q⟩ := κ
  exact fun H locs ls hP hD hS hl => lv_dup2_11 hC.1.1 hC.1.2.1 hdg hva hvb (k H locs ls hP hD hS hl)
theorem v_goto (hC : Ok Λ R0 cc Ts own nL0 κ) {off : Int} {tgt : Nat} (hdg : decode cc pc = .ok (.goto off, 3)) (ht : (pc : Int) + off = (tgt : Int)) (k : V Λ κ C tgt lv st) : V Λ κ C pc lv st := by
  obtain ⟨p, e, R, s, m, args, below, meth, c, nL, kc, ks', Q⟩ := κ
  exact fun H locs ls hP hD hS hl => lv_goto hC.1.1 hC.1.2.1 hdg ht (k H locs ls hP hD hS hl)
theorem v_if_eq (hC : Ok Λ R0 cc Ts own nL0 κ) {x : Int32} {off : Int} {tgt : Nat} (hdg : decode cc pc = .ok (.ifCond .eq off, 3)) (ht : (pc : Int) + off = (tgt : Int)) (kt : x = 0 → V Λ κ C tgt lv st) (kf : ¬ x = 0 → V Λ κ C (pc + 3) lv st) : V Λ κ C pc lv (.int x :: st) := by
  obtain ⟨p, e, R, s, m, args, below, meth, c, nL, kc, ks', Q⟩ := κ
  exact fun H locs ls hP hD hS hl => lv_if_eq hC.1.1 hC.1.2.1 hdg ht (fun h => kt h H locs ls hP hD hS hl) (fun h => kf h H locs ls hP hD hS hl)
theorem v_if_ne (hC : Ok Λ R0 cc Ts own nL0 κ) {x : Int32} {off : Int} {tgt : Nat} (hdg : decode cc pc = .ok (.ifCond .ne off, 3)) (ht : (pc : Int) + off = (tgt : Int)) (kt : ¬ x = 0 → V Λ κ C tgt lv st) (kf : x = 0 → V Λ κ C (pc + 3) lv st) : V Λ κ C pc lv (.int x :: st) := by
  obtain ⟨p, e, R, s, m, args, below, meth, c, nL, kc, ks', Q⟩ := κ
  exact fun H locs ls hP hD hS hl => lv_if_ne hC.1.1 hC.1.2.1 hdg ht (fun h => kt h H locs ls hP hD hS hl) (fun h => kf h H locs ls hP hD hS hl)
theorem v_if_lt (hC : Ok Λ R0 cc Ts own nL0 κ) {x : Int32} {off : Int} {tgt : Nat} (hdg : decode cc pc = .ok (.ifCond .lt off, 3)) (ht : (pc : Int) + off = (tgt : Int)) (kt : x < 0 → V Λ κ C tgt lv st) (kf : ¬ x < 0 → V Λ κ C (pc + 3) lv st) : V Λ κ C pc lv (.int x :: st) := by
  obtain ⟨p, e, R, s, m, args, below, meth, c, nL, kc, ks', Q⟩ := κ
  exact fun H locs ls hP hD hS hl => lv_if_lt hC.1.1 hC.1.2.1 hdg ht (fun h => kt h H locs ls hP hD hS hl) (fun h => kf h H locs ls hP hD hS hl)
theorem v_if_ge (hC : Ok Λ R0 cc Ts own nL0 κ) {x : Int32} {off : Int} {tgt : Nat} (hdg : decode cc pc = .ok (.ifCond .ge off, 3)) (ht : (pc : Int) + off = (tgt : Int)) (kt : 0 ≤ x → V Λ κ C tgt lv st) (kf : ¬ 0 ≤ x → V Λ κ C (pc + 3) lv st) : V Λ κ C pc lv (.int x :: st) := by
  obtain ⟨p, e, R, s, m, args, below, meth, c, nL, kc, ks', Q⟩ := κ
  exact fun H locs ls hP hD hS hl => lv_if_ge hC.1.1 hC.1.2.1 hdg ht (fun h => kt h H locs ls hP hD hS hl) (fun h => kf h H locs ls hP hD hS hl)
theorem v_if_gt (hC : Ok Λ R0 cc Ts own nL0 κ) {x : Int32} {off : Int} {tgt : Nat} (hdg : decode cc pc = .ok (.ifCond .gt off, 3)) (ht : (pc : Int) + off = (tgt : Int)) (kt : 0 < x → V Λ κ C tgt lv st) (kf : ¬ 0 < x → V Λ κ C (pc + 3) lv st) : V Λ κ C pc lv (.int x :: st) := by
  obtain ⟨p, e, R, s, m, args, below, meth, c, nL, kc, ks', Q⟩ := κ
  exact fun H locs ls hP hD hS hl => lv_if_gt hC.1.1 hC.1.2.1 hdg ht (fun h => kt h H locs ls hP hD hS hl) (fun h => kf h H locs ls hP hD hS hl)
theorem v_if_le (hC : Ok Λ R0 cc Ts own nL0 κ) {x : Int32} {off : Int} {tgt : Nat} (hdg : decode cc pc = .ok (.ifCond .le off, 3)) (ht : (pc : Int) + off = (tgt : Int)) (kt : x ≤ 0 → V Λ κ C tgt lv st) (kf : ¬ x ≤ 0 → V Λ κ C (pc + 3) lv st) : V Λ κ C pc lv (.int x :: st) := by
  obtain ⟨p, e, R, s, m, args, below, meth, c, nL, kc, ks', Q⟩ := κ
  exact fun H locs ls hP hD hS hl => lv_if_le hC.1.1 hC.1.2.1 hdg ht (fun h => kt h H locs ls hP hD hS hl) (fun h => kf h H locs ls hP hD hS hl)
theorem v_icmp_eq (hC : Ok Λ R0 cc Ts own nL0 κ) {x y : Int32} {off : Int} {tgt : Nat} (hdg : decode cc pc = .ok (.if_icmp .eq off, 3)) (ht : (pc : Int) + off = (tgt : Int)) (kt : x = y → V Λ κ C tgt lv st) (kf : ¬ x = y → V Λ κ C (pc + 3) lv st) : V Λ κ C pc lv (.int y :: .int x :: st) := by
  obtain ⟨p, e, R, s, m, args, below, meth, c, nL, kc, ks', Q⟩ := κ
  exact fun H locs ls hP hD hS hl => lv_icmp_eq hC.1.1 hC.1.2.1 hdg ht (fun h => kt h H locs ls hP hD hS hl) (fun h => kf h H locs ls hP hD hS hl)
theorem v_icmp_ne (hC : Ok Λ R0 cc Ts own nL0 κ) {x y : Int32} {off : Int} {tgt : Nat} (hdg : decode cc pc = .ok (.if_icmp .ne off, 3)) (ht : (pc : Int) + off = (tgt : Int)) (kt : ¬ x = y → V Λ κ C tgt lv st) (kf : x = y → V Λ κ C (pc + 3) lv st) : V Λ κ C pc lv (.int y :: .int x :: st) := by
  obtain ⟨p, e, R, s, m, args, below, meth, c, nL, kc, ks', Q⟩ := κ
  exact fun H locs ls hP hD hS hl => lv_icmp_ne hC.1.1 hC.1.2.1 hdg ht (fun h => kt h H locs ls hP hD hS hl) (fun h => kf h H locs ls hP hD hS hl)
theorem v_icmp_lt (hC : Ok Λ R0 cc Ts own nL0 κ) {x y : Int32} {off : Int} {tgt : Nat} (hdg : decode cc pc = .ok (.if_icmp .lt off, 3)) (ht : (pc : Int) + off = (tgt : Int)) (kt : x < y → V Λ κ C tgt lv st) (kf : ¬ x < y → V Λ κ C (pc + 3) lv st) : V Λ κ C pc lv (.int y :: .int x :: st) := by
  obtain ⟨p, e, R, s, m, args, below, meth, c, nL, kc, ks', Q⟩ := κ
  exact fun H locs ls hP hD hS hl => lv_icmp_lt hC.1.1 hC.1.2.1 hdg ht (fun h => kt h H locs ls hP hD hS hl) (fun h => kf h H locs ls hP hD hS hl)
theorem v_icmp_ge (hC : Ok Λ R0 cc Ts own nL0 κ) {x y : Int32} {off : Int} {tgt : Nat} (hdg : decode cc pc = .ok (.if_icmp .ge off, 3)) (ht : (pc : Int) + off = (tgt : Int)) (kt : y ≤ x → V Λ κ C tgt lv st) (kf : ¬ y ≤ x → V Λ κ C (pc + 3) lv st) : V Λ κ C pc lv (.int y :: .int x :: st) := by
  obtain ⟨p, e, R, s, m, args, below, meth, c, nL, kc, ks', Q⟩ := κ
  exact fun H locs ls hP hD hS hl => lv_icmp_ge hC.1.1 hC.1.2.1 hdg ht (fun h => kt h H locs ls hP hD hS hl) (fun h => kf h H locs ls hP hD hS hl)
theorem v_icmp_gt (hC : Ok Λ R0 cc Ts own nL0 κ) {x y : Int32} {off : Int} {tgt : Nat} (hdg : decode cc pc = .ok (.if_icmp .gt off, 3)) (ht : (pc : Int) + off = (tgt : Int)) (kt : y < x → V Λ κ C tgt lv st) (kf : ¬ y < x → V Λ κ C (pc + 3) lv st) : V Λ κ C pc lv (.int y :: .int x :: st) := by
  obtain ⟨p, e, R, s, m, args, below, meth, c, nL, kc, ks', Q⟩ := κ
  exact fun H locs ls hP hD hS hl => lv_icmp_gt hC.1.1 hC.1.2.1 hdg ht (fun h => kt h H locs ls hP hD hS hl) (fun h => kf h H locs ls hP hD hS hl)
theorem v_icmp_le (hC : Ok Λ R0 cc Ts own nL0 κ) {x y : Int32} {off : Int} {tgt : Nat} (hdg : decode cc pc = .ok (.if_icmp .le off, 3)) (ht : (pc : Int) + off = (tgt : Int)) (kt : x ≤ y → V Λ κ C tgt lv st) (kf : ¬ x ≤ y → V Λ κ C (pc + 3) lv st) : V Λ κ C pc lv (.int y :: .int x :: st) := by
  obtain ⟨p, e, R, s, m, args, below, meth, c, nL, kc, ks', Q⟩ := κ
  exact fun H locs ls hP hD hS hl => lv_icmp_le hC.1.1 hC.1.2.1 hdg ht (fun h => kt h H locs ls hP hD hS hl) (fun h => kf h H locs ls hP hD hS hl)
-- heap: fields
theorem v_get (hC : Ok Λ R0 cc Ts own nL0 κ) {Cn : String} {T : u_T} {N ci index : Nat} {fs : List Value} {v : Value} (r : Nat) (hr : r < nR) (he : C r = .inr (ci, fs)) (hin : ∀ w ∈ u_ws Cn T N, w ∈ Ts) (hc : vwCl[ci]? = some (Cn, T, N)) (k : Nat) (hk : k < N) (hlink : Cond.fieldLink own index (T k).1 (T k).2.1 (T k).2.2.1 ∈ Ts) (hv : fs[k]? = some v) (hdg : decode cc pc = .ok (.getfield index, 3))
    (kk : V Λ κ C (pc + 3) lv (v :: st)) : V Λ κ C pc lv (rf Λ r :: st) := by
  obtain ⟨p, e, R, s, m, args, below, meth, c, nL, kc, ks', Q⟩ := κ
  intro H locs ls hP hD hS hl
  refine va_get (D := Λ.2.2.1) (ci := ci) (v := v) (C := Cn) (T := T) (N := N) (fs := fs) hC.1.1 hC.1.2.1 hC.1.2.2.2.2 hin hC.1.2.2.2.1 hC.2.2.2.1 hP r ?_ hc k hk (hC.1.2.2.2.2 _ hlink) (fun _ h9 => h9) hv hdg (kk H locs ls hP hD hS hl)
  rw [wl_get hr, he]
theorem v_put (hC : Ok Λ R0 cc Ts own nL0 κ) {Cn : String} {T : u_T} {N ci index : Nat} {fs : List Value} {v : Value} {ty : FieldType} (r : Nat) (hr : r < nR) (he : C r = .inr (ci, fs)) (hin : ∀ w ∈ u_ws Cn T N, w ∈ Ts) (ty0 : Nat → FieldType) (hty : ∀ k, k < N → parseFieldDescriptor (T k).2.2.1 = some (ty0 k)) (hnm : ∀ a, a < N → ∀ b, b < N → a ≠ b → (T a).2.1 ≠ (T b).2.1) (hc : vwCl[ci]? = some (Cn, T, N)) (k : Nat) (hk : k < N) (hlink : Cond.fieldLink own index (T k).1 (T k).2.1 (T k).2.2.1 ∈ Ts) (hfin : (T k).2.2.2 = false) (hd : parseFieldDescriptor (T k).2.2.1 = some ty) (hn : narrow ty v = v) (hfit : fits ty v = true) (hl : k < fs.length) (hdg : decode cc pc = .ok (.putfield index, 3))
    (kk : V Λ κ (va_up C r (.inr (ci, fs.set k v))) (pc + 3) lv st) : V Λ κ C pc lv (v :: rf Λ r :: st) := by
  obtain ⟨p, e, R, s, m, args, below, meth, c, nL, kc, ks', Q⟩ := κ
  intro H locs ls hP hD hS hls
  refine va_put (D := Λ.2.2.1) (ci := ci) (v := v) (ty := ty) (C := Cn) (T := T) (N := N) (fs := fs) hC.1.1 hC.1.2.1 hC.1.2.2.2.2 hin ty0 hty hnm hC.1.2.2.2.1 hC.2.2.2.1 hP hD hS r ?_ hc k hk (hC.1.2.2.2.2 _ hlink) (fun _ h9 => h9) hfin hd hn hfit hl hdg (fun H1 locs1 hP1 hD1 hS1 => ?_)
  · rw [wl_get hr, he]
  · rw [wl_set hr] at hP1 hD1
    exact kk H1 locs1 ls hP1 hD1 hS1 hls
-- heap: arrays
theorem v_iald (hC : Ok Λ R0 cc Ts own nL0 κ) {n : Nat} {f : Nat → Int32} {x : Int32} (r : Nat) (hr : r < nR) (he : C r = .inl (Λ.2.2.2.1 1, n, .inl f)) (j : Nat) (hx : x = nI j) (hj : j < n) (hn : n < 2 ^ 31) (hdg : decode cc pc = .ok (.iaload, 1))
    (kk : V Λ κ C (pc + 1) lv (.int (f j) :: st)) : V Λ κ C pc lv (.int x :: rf Λ r :: st) := by
  subst hx
  obtain ⟨p, e, R, s, m, args, below, meth, c, nL, kc, ks', Q⟩ := κ
  intro H locs ls hP hD hS hl
  refine va_iald hC.1.1 hC.1.2.1 hC.2.2.2.1 hP r 1 (by rw [wl_get hr, he]) rfl (vp_in_nI hj hn) hdg ?_
  rw [nI_clamp (Nat.lt_trans hj hn)]
  exact kk H locs ls hP hD hS hl
theorem v_cald (hC : Ok Λ R0 cc Ts own nL0 κ) {n : Nat} {f : Nat → Int32} {x : Int32} (r : Nat) (hr : r < nR) (he : C r = .inl (Λ.2.2.2.1 2, n, .inl f)) (j : Nat) (hx : x = nI j) (hj : j < n) (hn : n < 2 ^ 31) (hdg : decode cc pc = .ok (.caload, 1))
    (kk : V Λ κ C (pc + 1) lv (.int (f j) :: st)) : V Λ κ C pc lv (.int x :: rf Λ r :: st) := by
  subst hx
  obtain ⟨p, e, R, s, m, args, below, meth, c, nL, kc, ks', Q⟩ := κ
  intro H locs ls hP hD hS hl
  refine va_cald hC.1.1 hC.1.2.1 hC.2.2.2.1 hP r 2 (by rw [wl_get hr, he]) rfl (vp_in_nI hj hn) hdg ?_
  rw [nI_clamp (Nat.lt_trans hj hn)]
  exact kk H locs ls hP hD hS hl
theorem v_lald (hC : Ok Λ R0 cc Ts own nL0 κ) {n : Nat} {f : Nat → Int64} {x : Int32} (r : Nat) (hr : r < nR) (he : C r = .inl (Λ.2.2.2.1 0, n, .inr (.inl f))) (j : Nat) (hx : x = nI j) (hj : j < n) (hn : n < 2 ^ 31) (hdg : decode cc pc = .ok (.laload, 1))
    (kk : V Λ κ C (pc + 1) lv (.long (f j) :: st)) : V Λ κ C pc lv (.int x :: rf Λ r :: st) := by
  subst hx
  obtain ⟨p, e, R, s, m, args, below, meth, c, nL, kc, ks', Q⟩ := κ
  intro H locs ls hP hD hS hl
  refine va_lald hC.1.1 hC.1.2.1 hC.2.2.2.1 hP r 0 (by rw [wl_get hr, he]) rfl (vp_in_nI hj hn) hdg ?_
  rw [nI_clamp (Nat.lt_trans hj hn)]
  exact kk H locs ls hP hD hS hl
theorem v_aald (hC : Ok Λ R0 cc Ts own nL0 κ) {n : Nat} {f : Nat → Option Nat} {x : Int32} (r : Nat) (hr : r < nR) (t : Nat) {Cn : String} (ht : (tysOf Λ.2.2.2.1)[t]? = some (Λ.2.2.2.1 t, .object Cn)) (he : C r = .inl (Λ.2.2.2.1 t, n, .inr (.inr (.inr (.inr f))))) (j : Nat) (hx : x = nI j) (hj : j < n) (hn : n < 2 ^ 31) {r2 : Nat} (hf : f j = some (Λ.2.1 r2)) (hdg : decode cc pc = .ok (.aaload, 1))
    (kk : V Λ κ C (pc + 1) lv (rf Λ r2 :: st)) : V Λ κ C pc lv (.int x :: rf Λ r :: st) := by
  subst hx
  obtain ⟨p, e, R, s, m, args, below, meth, c, nL, kc, ks', Q⟩ := κ
  intro H locs ls hP hD hS hl
  refine va_aldq hC.1.1 hC.1.2.1 hC.2.2.2.1 hP r t (by rw [wl_get hr, he]) ht (vp_in_nI hj hn) hdg ?_
  rw [nI_clamp (Nat.lt_trans hj hn), hf]
  exact kk H locs ls hP hD hS hl
theorem v_iast (hC : Ok Λ R0 cc Ts own nL0 κ) {n : Nat} {f : Nat → Int32} {x y : Int32} (r : Nat) (hr : r < nR) (he : C r = .inl (Λ.2.2.2.1 1, n, .inl f)) (j : Nat) (hx : x = nI j) (hj : j < n) (hn : n < 2 ^ 31) (hdg : decode cc pc = .ok (.iastore, 1))
    (kk : V Λ κ (va_up C r (.inl (Λ.2.2.2.1 1, n, .inl (upd f j y)))) (pc + 1) lv st) : V Λ κ C pc lv (.int y :: .int x :: rf Λ r :: st) := by
  subst hx
  obtain ⟨p, e, R, s, m, args, below, meth, c, nL, kc, ks', Q⟩ := κ
  intro H locs ls hP hD hS hl
  refine va_iast hC.1.1 hC.1.2.1 hC.2.2.2.1 hP hD hS r 1 (by rw [wl_get hr, he]) rfl (vp_in_nI hj hn) hdg (fun H1 locs1 hP1 hD1 hS1 => ?_)
  rw [wl_set hr, nI_clamp (Nat.lt_trans hj hn)] at hP1 hD1
  exact kk H1 locs1 ls hP1 hD1 hS1 hl
theorem v_cast (hC : Ok Λ R0 cc Ts own nL0 κ) {n : Nat} {f : Nat → Int32} {x y : Int32} (r : Nat) (hr : r < nR) (he : C r = .inl (Λ.2.2.2.1 2, n, .inl f)) (j : Nat) (hx : x = nI j) (hj : j < n) (hn : n < 2 ^ 31) (hdg : decode cc pc = .ok (.castore, 1))
    (kk : V Λ κ (va_up C r (.inl (Λ.2.2.2.1 2, n, .inl (upd f j (vp_nar .char y))))) (pc + 1) lv st) : V Λ κ C pc lv (.int y :: .int x :: rf Λ r :: st) := by
  subst hx
  obtain ⟨p, e, R, s, m, args, below, meth, c, nL, kc, ks', Q⟩ := κ
  intro H locs ls hP hD hS hl
  refine va_cast hC.1.1 hC.1.2.1 hC.2.2.2.1 hP hD hS r 2 (by rw [wl_get hr, he]) rfl (vp_in_nI hj hn) hdg (fun H1 locs1 hP1 hD1 hS1 => ?_)
  rw [wl_set hr, nI_clamp (Nat.lt_trans hj hn)] at hP1 hD1
  exact kk H1 locs1 ls hP1 hD1 hS1 hl
theorem v_last (hC : Ok Λ R0 cc Ts own nL0 κ) {n : Nat} {f : Nat → Int64} {x : Int32} {y : Int64} (r : Nat) (hr : r < nR) (he : C r = .inl (Λ.2.2.2.1 0, n, .inr (.inl f))) (j : Nat) (hx : x = nI j) (hj : j < n) (hn : n < 2 ^ 31) (hdg : decode cc pc = .ok (.lastore, 1))
    (kk : V Λ κ (va_up C r (.inl (Λ.2.2.2.1 0, n, .inr (.inl (vp_updL f j y))))) (pc + 1) lv st) : V Λ κ C pc lv (.long y :: .int x :: rf Λ r :: st) := by
  subst hx
  obtain ⟨p, e, R, s, m, args, below, meth, c, nL, kc, ks', Q⟩ := κ
  intro H locs ls hP hD hS hl
  refine va_last hC.1.1 hC.1.2.1 hC.2.2.2.1 hP hD hS r 0 (by rw [wl_get hr, he]) rfl (vp_in_nI hj hn) hdg (fun H1 locs1 hP1 hD1 hS1 => ?_)
  rw [wl_set hr, nI_clamp (Nat.lt_trans hj hn)] at hP1 hD1
  exact kk H1 locs1 ls hP1 hD1 hS1 hl
theorem v_aast (hC : Ok Λ R0 cc Ts own nL0 κ) {n ci : Nat} {f : Nat → Option Nat} {fs : List Value} {cn : vw_C} {x : Int32} (r r2 : Nat) (hr : r < nR) (hr2 : r2 < nR) (t : Nat) (ht : (tysOf Λ.2.2.2.1)[t]? = some (Λ.2.2.2.1 t, .object cn.1)) (he : C r = .inl (Λ.2.2.2.1 t, n, .inr (.inr (.inr (.inr f))))) (he2 : C r2 = .inr (ci, fs)) (hc : vwCl[ci]? = some cn) (j : Nat) (hx : x = nI j) (hj : j < n) (hn : n < 2 ^ 31) (hdg : decode cc pc = .ok (.aastore, 1))
    (kk : V Λ κ (va_up C r (.inl (Λ.2.2.2.1 t, n, .inr (.inr (.inr (.inr (va_up f j (some (Λ.2.1 r2)))))))))  (pc + 1) lv st) : V Λ κ C pc lv (rf Λ r2 :: .int x :: rf Λ r :: st) := by
  subst hx
  obtain ⟨p, e, R, s, m, args, below, meth, c, nL, kc, ks', Q⟩ := κ
  intro H locs ls hP hD hS hl
  refine va_astq hC.1.1 hC.1.2.1 hC.2.2.2.1 hP hD hS r t r2 ci (by rw [wl_get hr, he]) ht (by rw [wl_get hr2, he2]) hc (vp_in_nI hj hn) hdg (fun H1 locs1 hP1 hD1 hS1 => ?_)
  rw [wl_set hr, nI_clamp (Nat.lt_trans hj hn)] at hP1 hD1
  exact kk H1 locs1 ls hP1 hD1 hS1 hl
theorem v_alen (hC : Ok Λ R0 cc Ts own nL0 κ) {n : Nat} {cA : ClassId} {x : (Nat → Int32) ⊕ (Nat → Int64) ⊕ (Nat → UInt32) ⊕ (Nat → UInt64) ⊕ (Nat → Option Nat)} (r : Nat) (hr : r < nR) (t : Nat) {ty : FieldType} (ht : (tysOf Λ.2.2.2.1)[t]? = some (cA, ty)) (he : C r = .inl (cA, n, x)) (hdg : decode cc pc = .ok (.arraylength, 1))
    (kk : V Λ κ C (pc + 1) lv (.int (nI n) :: st)) : V Λ κ C pc lv (rf Λ r :: st) := by
  obtain ⟨p, e, R, s, m, args, below, meth, c, nL, kc, ks', Q⟩ := κ
  intro H locs ls hP hD hS hl
  exact va_alen (x := (n, x)) hC.1.1 hC.1.2.1 hC.2.2.2.1 hP r t (by rw [wl_get hr, he]) ht rfl hdg (kk H locs ls hP hD hS hl)
-- arraycopy
theorem v_copyi (hC : Ok Λ R0 cc Ts own nL0 κ) {index n0 n1 : Nat} {f g : Nat → Int32} {n : Int32} (r0 r1 : Nat) (hr0 : r0 < nR) (hr1 : r1 < nR) (he0 : C r0 = .inl (Λ.2.2.2.1 1, n0, .inl f)) (he1 : C r1 = .inl (Λ.2.2.2.1 1, n1, .inl g)) (w1 : Cond.methodLink own index arraycopyName ∈ Ts) (w2 : Cond.native arraycopyName ∈ Ts) (w3 : Cond.static arraycopyName ∈ Ts) (w4 : Cond.initialized "java/lang/System" ∈ Ts) (j : Nat) (hj : n = nI j) (hj2 : j < 2 ^ 31) (h0 : j ≤ n0) (h1 : j ≤ n1) (hfr : 1 ≤ R0.frames) (hlo : (st.map fun v => v.category).sum + (nativeFrameWords "java/lang/System" "arraycopy" 5 + 11) ≤ R0.locals) (hdg : decode cc pc = .ok (.invokestatic index, 3))
    (kk : V Λ κ (va_up C r1 (.inl (Λ.2.2.2.1 1, n1, .inl (va_cpy f g 0 0 j)))) (pc + 3) lv st) : V Λ κ C pc lv (.int n :: .int 0 :: rf Λ r1 :: .int 0 :: rf Λ r0 :: st) := by
  subst hj
  obtain ⟨p, e, R, s, m, args, below, meth, c, nL, kc, ks', Q⟩ := κ
  intro H locs ls hP hD hS hl
  have z0 : (0 : Int32).toNatClampNeg = 0 := rfl
  have hb := hC.1.2.1
  refine va_copyi hC.1.1 hC.1.2.1 (by rw [hC.1.2.2.1, hl.1]) hC.1.2.2.2.1 (hC.1.2.2.2.2 _ w1) (hC.1.2.2.2.2 _ w2) (hC.1.2.2.2.2 _ w3) (hC.1.2.2.2.2 _ w4) hC.2.2.2.1 hP hD hS r0 r1 1 1 (by rw [wl_get hr0, he0]) (by rw [wl_get hr1, he1]) rfl rfl rfl (by decide) (by decide) (nI_pos hj2) (by rw [z0, nI_clamp hj2]; omega) (by rw [z0, nI_clamp hj2]; omega) (fun _ _ => rfl) (by rw [hC.2.1]; exact hfr) (by rw [hC.2.1]; exact hlo) hdg (fun H1 locs1 hP1 hD1 hS1 => ?_)
  rw [wl_set hr1, z0, nI_clamp hj2] at hP1 hD1
  exact kk H1 locs1 ls hP1 hD1 hS1 hl
theorem v_copyl (hC : Ok Λ R0 cc Ts own nL0 κ) {index n0 n1 : Nat} {f g : Nat → Int64} {n : Int32} (r0 r1 : Nat) (hr0 : r0 < nR) (hr1 : r1 < nR) (he0 : C r0 = .inl (Λ.2.2.2.1 0, n0, .inr (.inl f))) (he1 : C r1 = .inl (Λ.2.2.2.1 0, n1, .inr (.inl g))) (w1 : Cond.methodLink own index arraycopyName ∈ Ts) (w2 : Cond.native arraycopyName ∈ Ts) (w3 : Cond.static arraycopyName ∈ Ts) (w4 : Cond.initialized "java/lang/System" ∈ Ts) (j : Nat) (hj : n = nI j) (hj2 : j < 2 ^ 31) (h0 : j ≤ n0) (h1 : j ≤ n1) (hfr : 1 ≤ R0.frames) (hlo : (st.map fun v => v.category).sum + (nativeFrameWords "java/lang/System" "arraycopy" 5 + 11) ≤ R0.locals) (hdg : decode cc pc = .ok (.invokestatic index, 3))
    (kk : V Λ κ (va_up C r1 (.inl (Λ.2.2.2.1 0, n1, .inr (.inl (va_cpy f g 0 0 j))))) (pc + 3) lv st) : V Λ κ C pc lv (.int n :: .int 0 :: rf Λ r1 :: .int 0 :: rf Λ r0 :: st) := by
  subst hj
  obtain ⟨p, e, R, s, m, args, below, meth, c, nL, kc, ks', Q⟩ := κ
  intro H locs ls hP hD hS hl
  have z0 : (0 : Int32).toNatClampNeg = 0 := rfl
  refine va_copyl hC.1.1 hC.1.2.1 (by rw [hC.1.2.2.1, hl.1]) hC.1.2.2.2.1 (hC.1.2.2.2.2 _ w1) (hC.1.2.2.2.2 _ w2) (hC.1.2.2.2.2 _ w3) (hC.1.2.2.2.2 _ w4) hC.2.2.2.1 hP hD hS r0 r1 0 0 (by rw [wl_get hr0, he0]) (by rw [wl_get hr1, he1]) rfl rfl rfl (by decide) (by decide) (nI_pos hj2) (by rw [z0, nI_clamp hj2]; omega) (by rw [z0, nI_clamp hj2]; omega) (fun _ _ => rfl) (by rw [hC.2.1]; exact hfr) (by rw [hC.2.1]; exact hlo) hdg (fun H1 locs1 hP1 hD1 hS1 => ?_)
  rw [wl_set hr1, z0, nI_clamp hj2] at hP1 hD1
  exact kk H1 locs1 ls hP1 hD1 hS1 hl
-- a cell may be said otherwise where nothing is read
theorem v_congr {C' : Mem} (h : ∀ r, r < nR → C r = C' r ∨ ∃ cA n f f', C r = .inl (cA, n, .inl f) ∧ C' r = .inl (cA, n, .inl f') ∧ ∀ j, j < n → f j = f' j) (k : V Λ κ C' pc lv st) : V Λ κ C pc lv st := by
  obtain ⟨p, e, R, s, m, args, below, meth, c, nL, kc, ks', Q⟩ := κ
  intro H locs ls hP hD hS hl
  have key : ∀ (i : Nat) (q : Nat × va_E), (wl Λ.2.1 C')[i]? = some q → ∃ q0, (wl Λ.2.1 C)[i]? = some q0 ∧ q0.1 = q.1 ∧ (va_at Λ.2.2.1 vwCl q0 H → va_at Λ.2.2.1 vwCl q H) := by
    intro i q hq
    have hi : i < nR := by
      have := (List.getElem?_eq_some_iff.mp hq).1
      simpa [wl] using this
    rw [wl_get hi] at hq
    cases hq
    refine ⟨_, wl_get hi, rfl, fun ha => ?_⟩
    rcases h i hi with h1 | ⟨cA, n, f, f', h1, h2, h3⟩
    · rw [← h1]; exact ha
    · rw [h1] at ha
      rw [h2]
      have e1 : vp_cell cA (n, .inl f) = vp_cell cA (n, .inl f') := by
        rw [vp_cell_i, vp_cell_i]
        unfold arrV
        congr 1
        apply Array.ext
        · simp
        · intro i hi1 hi2
          simp at hi1
          simp [h3 i hi1]
      show H[Λ.2.1 i]? = some (vp_cell cA (n, .inl f'))
      rw [← e1]
      exact ha
  refine k H locs ls (fun i q hq => ?_) ⟨fun i j x y hx hy hxy => ?_, fun i q hq => ?_⟩ hS hl
  · obtain ⟨q0, a1, a2, a3⟩ := key i q hq
    exact a3 (hP i q0 a1)
  · obtain ⟨x0, a1, a2, -⟩ := key i x hx
    obtain ⟨y0, b1, b2, -⟩ := key j y hy
    exact hD.1 i j x0 y0 a1 b1 (by rw [a2, b2]; exact hxy)
  · obtain ⟨q0, a1, a2, -⟩ := key i q hq
    rw [← a2]
    exact hD.2 i q0 a1
end ROWS
-- calls
theorem v_back {Λ : Lk} {p : Program} {e : Env} {R : Room} {s : State} {m : MethodId} {args : Array Value} {below : List Frame} {meth : Method} {c : Code} {nL kc ks : Nat} {Q : State → Prop} {C2 : Mem} {pc : Nat} {lv : Lvs} {st0 rest : List Value} {rv : Option Value} {a : Array Value} {H : Heap} {locs : List Loc} {ls : Array Slot} (hS : va_S Λ.2.2.2.2 s.heap H locs) (hl : lv_has ls nL lv)
    (hr : va_Run p Λ.1 e R s m args below meth c H locs kc ks 0 0 (F0 m pc ls st0) rest (QQ Λ rv C2 a) Λ.2.2.2.2)
    (k : V Λ (p, e, R, s, m, args, below, meth, c, nL, kc, ks, Q) C2 (pc + 3) lv (rv.toList ++ rest)) : W p Λ.1 e R s m args below meth c H locs kc ks Q (F0 m pc ls st0) := by
  intro T hT X
  obtain ⟨v, st₀, t, T', L, h0, X', hL, e1, e2, ⟨⟨hv, hP, hD⟩, hz, hk⟩, stp⟩ := hr T hT X
  cases hv
  rw [h0] at hz hk
  rw [← e1] at hP hz hk
  obtain ⟨t2, a1, b1⟩ := k T'.heap (locs ++ L) ls hP hD ⟨Nat.le_trans hS.1 hz, fun q h1 h2 => by rw [hk q (Nat.lt_of_lt_of_le h1 hS.1) h2]; exact hS.2.1 q h1 h2, fun q hq => by
      rcases List.mem_append.mp hq with h | h
      · exact hS.2.2 q h
      · exact hL q h⟩ hl T' rfl X'
  exact ⟨t2, stp t2 a1, b1⟩
section CALLS
variable {Λ : Lk} {κ : Kx} {R0 : Room} {cc : ByteArray} {Ts : List Cond} {own : String} {nL0 : Nat} {C C2 : Mem} {pc : Nat} {lv : Lvs} {st rest : List Value}
theorem v_callV (hC : Ok Λ R0 cc Ts own nL0 κ) {y : MethodName} {ws ws' : List Cond} {rm : Room} {As : List Value} {rv : Option Value} {bytes : ByteArray} {maxL index : Nat} {ret : Option FieldType} {cn : vw_C} {ci : Nat} {fs : List Value} (n r : Nat) (hM : Con Λ y ws rm (rf Λ r :: As) C rv C2) (hr : r < nR) (he : C r = .inr (ci, fs)) (hc : vwCl[ci]? = some cn) (hG : GoodIn Ts (wsV own index cn.1 y ws)) (hw : ws = Cond.code y bytes maxL ret :: ws') (hrc : rm.cells = 0) (hrs : rm.slots = 0)
    (hd : y.cls = cn.1 ∧ y.cls ≠ "java/lang/invoke/MethodHandle" ∧ y.cls ≠ "java/lang/invoke/VarHandle" ∧ (parseMethodDescriptor y.desc).map (fun d => d.parameters.length) = some n) (hR : rm.frames + 1 ≤ R0.frames ∧ 8 + (maxL + 11) + rm.locals ≤ R0.locals) (hn : As.length = n) (hs : st = As.reverse ++ rf Λ r :: rest) (hro : (rest.map fun v => v.category).sum ≤ 8) (hdg : decode cc pc = .ok (.invokevirtual index, 3))
    (k : V Λ κ C2 (pc + 3) lv (rv.toList ++ rest)) : V Λ κ C pc lv st := by
  subst hs
  obtain ⟨p, e, R, s, m, args, below, meth, c, nL, kc, ks', Q⟩ := κ
  obtain ⟨S, rfl, rfl, hK, hN, hkc, hks⟩ := hC
  intro H locs ls hP hD hS hl
  refine v_back hS hl (va_runV (As := As) (rest := rest) S hM (cwV n S.2.2.2.2 hG hw hrc hrs hd hR) ⟨Hld.blind, va_recv hK hP hc (q0 := r) (by rw [wl_get hr, he]), fun U hU hW => ⟨rfl, by rw [hU]; exact hP, hD, va_K.moved hW.alike hK, nst_warm hW hN⟩⟩ rfl hn hl.1 rfl (lv_room hro) hdg ⟨hkc, hks⟩) k
theorem v_callS (hC : Ok Λ R0 cc Ts own nL0 κ) {y : MethodName} {ws ws' : List Cond} {rm : Room} {As : List Value} {rv : Option Value} {bytes : ByteArray} {maxL index : Nat} {ret : Option FieldType} (n : Nat) (hM : Con Λ y ws rm As C rv C2) (hG : GoodIn Ts (va_wsS own index y ws)) (hw : ws = Cond.code y bytes maxL ret :: ws') (hrc : rm.cells = 0) (hrs : rm.slots = 0)
    (hd : y.cls ≠ "java/lang/invoke/MethodHandle" ∧ y.cls ≠ "java/lang/invoke/VarHandle" ∧ (parseMethodDescriptor y.desc).map (fun d => d.parameters.length) = some n) (hR : rm.frames + 1 ≤ R0.frames ∧ 8 + (maxL + 11) + rm.locals ≤ R0.locals) (hn : As.length = n) (hs : st = As.reverse ++ rest) (hro : (rest.map fun v => v.category).sum ≤ 8) (hdg : decode cc pc = .ok (.invokestatic index, 3))
    (k : V Λ κ C2 (pc + 3) lv (rv.toList ++ rest)) : V Λ κ C pc lv st := by
  subst hs
  obtain ⟨p, e, R, s, m, args, below, meth, c, nL, kc, ks', Q⟩ := κ
  obtain ⟨S, rfl, rfl, hK, hN, hkc, hks⟩ := hC
  intro H locs ls hP hD hS hl
  refine v_back hS hl (va_runS (As := As) (rest := rest) S hM (va_cwS n S.2.2.2.2 hG hw hrc hrs hd hR) ⟨Hld.blind, fun U hU hW => ⟨rfl, by rw [hU]; exact hP, hD, va_K.moved hW.alike hK, nst_warm hW hN⟩⟩ rfl hn hl.1 rfl (lv_room hro) hdg ⟨hkc, hks⟩) k
theorem v_callN (hC : Ok Λ R0 cc Ts own nL0 κ) {y : MethodName} {ws ws' : List Cond} {rm : Room} {As : List Value} {rv : Option Value} {bytes : ByteArray} {maxL index : Nat} {ret : Option FieldType} {host : String} (n : Nat) (hM : Con Λ y ws rm As C rv C2) (hG : GoodIn Ts ws) (hw : ws = Cond.code y bytes maxL ret :: ws') (hrc : rm.cells = 0) (hrs : rm.slots = 0) (hnw : Cond.methodLinkNest own index y host ∈ nst) (hini : Cond.initialized y.cls ∈ Ts) (hst : Cond.static y ∈ Ts)
    (hd : y.cls ≠ "java/lang/invoke/MethodHandle" ∧ y.cls ≠ "java/lang/invoke/VarHandle" ∧ (parseMethodDescriptor y.desc).map (fun d => d.parameters.length) = some n) (hR : rm.frames + 1 ≤ R0.frames ∧ 8 + (maxL + 11) + rm.locals ≤ R0.locals) (hn : As.length = n) (hs : st = As.reverse ++ rest) (hro : (rest.map fun v => v.category).sum ≤ 8) (hdg : decode cc pc = .ok (.invokestatic index, 3))
    (k : V Λ κ C2 (pc + 3) lv (rv.toList ++ rest)) : V Λ κ C pc lv st := by
  subst hs
  obtain ⟨p, e, R, s, m, args, below, meth, c, nL, kc, ks', Q⟩ := κ
  obtain ⟨S, rfl, rfl, hK, hN, hkc, hks⟩ := hC
  intro H locs ls hP hD hS hl
  refine v_back hS hl (va_runSN (As := As) (rest := rest) S hM ⟨va_cnB n S.2.2.2.2 hG hw hrc hrs (hN _ hnw) (S.2.2.2.2 _ hini) hd hR, S.2.2.2.2 _ hst, trivial⟩ ⟨Hld.blind, fun U hU hW => ⟨rfl, by rw [hU]; exact hP, hD, va_K.moved hW.alike hK, nst_warm hW hN⟩⟩ rfl hn hl.1 rfl (lv_room hro) hdg ⟨hkc, hks⟩) k
-- ends
theorem v_iret (hC : Ok Λ R0 cc Ts own nL0 κ) {x : Int32} {rv : Option Value} (hR : Rt Λ (some .int) rv C2 κ) (hv : rv = some (.int x)) (hm : C2 = C) (hdg : decode cc pc = .ok (.ireturn, 1)) : V Λ κ C pc lv [.int x] := by
  subst hv hm
  obtain ⟨p, e, R, s, m, args, below, meth, c, nL, kc, ks', Q⟩ := κ
  obtain ⟨rfl, hr, hlk⟩ := hR
  intro H locs ls hP hD hS hl
  exact W.iret (v := x) hC.1.1 hC.1.2.1 hr (fun t ht hW => ⟨⟨rfl, by rw [ht]; exact hP, hD⟩, hS.F ht⟩) hS.2.2 hdg hlk
theorem v_zret (hC : Ok Λ R0 cc Ts own nL0 κ) {x : Int32} {rv : Option Value} (hR : Rt Λ (some .boolean) rv C2 κ) (hv : rv = some (.int x)) (hm : C2 = C) (hz : narrow .boolean (.int x) = .int x) (hdg : decode cc pc = .ok (.ireturn, 1)) : V Λ κ C pc lv [.int x] := by
  subst hv hm
  obtain ⟨p, e, R, s, m, args, below, meth, c, nL, kc, ks', Q⟩ := κ
  obtain ⟨rfl, hr, hlk⟩ := hR
  intro H locs ls hP hD hS hl
  exact W.zret (v := x) hC.1.1 hC.1.2.1 hr hz (fun t ht hW => ⟨⟨rfl, by rw [ht]; exact hP, hD⟩, hS.F ht⟩) hS.2.2 hdg hlk
theorem v_lret (hC : Ok Λ R0 cc Ts own nL0 κ) {x : Int64} {rv : Option Value} (hR : Rt Λ (some .long) rv C2 κ) (hv : rv = some (.long x)) (hm : C2 = C) (hdg : decode cc pc = .ok (.lreturn, 1)) : V Λ κ C pc lv [.long x] := by
  subst hv hm
  obtain ⟨p, e, R, s, m, args, below, meth, c, nL, kc, ks', Q⟩ := κ
  obtain ⟨rfl, hr, hlk⟩ := hR
  intro H locs ls hP hD hS hl
  exact W.lret (v := x) hC.1.1 hC.1.2.1 hr (fun t ht hW => ⟨⟨rfl, by rw [ht]; exact hP, hD⟩, hS.F ht⟩) hS.2.2 hdg hlk
theorem v_vret (hC : Ok Λ R0 cc Ts own nL0 κ) {rv : Option Value} (hR : Rt Λ none rv C2 κ) (hv : rv = none) (hm : C2 = C) (hdg : decode cc pc = .ok (.return_, 1)) : V Λ κ C pc lv [] := by
  subst hv hm
  obtain ⟨p, e, R, s, m, args, below, meth, c, nL, kc, ks', Q⟩ := κ
  obtain ⟨rfl, hr, hlk⟩ := hR
  intro H locs ls hP hD hS hl
  exact W.vret hC.1.1 hC.1.2.1 hr (fun t ht hW => ⟨⟨rfl, by rw [ht]; exact hP, hD⟩, hS.F ht⟩) hS.2.2 hdg hlk
end CALLS

section CALLS2
variable {Λ : Lk} {κ : Kx} {R0 : Room} {cc : ByteArray} {Ts : List Cond} {own : String} {nL0 : Nat} {C C2 : Mem} {pc : Nat} {lv : Lvs} {st rest : List Value}
theorem v_callVr (hC : Ok Λ R0 cc Ts own nL0 κ) {y : MethodName} {ws ws' : List Cond} {rm : Room} {As : List Value} {v : Value} {bytes : ByteArray} {maxL index : Nat} {ret : Option FieldType} {cn : vw_C} {ci : Nat} {fs : List Value} (n r : Nat) (hM : Con Λ y ws rm (rf Λ r :: As) C (some v) C2) (hr : r < nR) (he : C r = .inr (ci, fs)) (hc : vwCl[ci]? = some cn) (hG : GoodIn Ts (wsV own index cn.1 y ws)) (hw : ws = Cond.code y bytes maxL ret :: ws') (hrc : rm.cells = 0) (hrs : rm.slots = 0)
    (hd : y.cls = cn.1 ∧ y.cls ≠ "java/lang/invoke/MethodHandle" ∧ y.cls ≠ "java/lang/invoke/VarHandle" ∧ (parseMethodDescriptor y.desc).map (fun d => d.parameters.length) = some n) (hR : rm.frames + 1 ≤ R0.frames ∧ 8 + (maxL + 11) + rm.locals ≤ R0.locals) (hn : As.length = n) (hs : st = As.reverse ++ rf Λ r :: rest) (hro : (rest.map fun v => v.category).sum ≤ 8) (hdg : decode cc pc = .ok (.invokevirtual index, 3))
    (k : V Λ κ C2 (pc + 3) lv (v :: rest)) : V Λ κ C pc lv st := v_callV hC n r hM hr he hc hG hw hrc hrs hd hR hn hs hro hdg k
theorem v_callVv (hC : Ok Λ R0 cc Ts own nL0 κ) {y : MethodName} {ws ws' : List Cond} {rm : Room} {As : List Value} {bytes : ByteArray} {maxL index : Nat} {ret : Option FieldType} {cn : vw_C} {ci : Nat} {fs : List Value} (n r : Nat) (hM : Con Λ y ws rm (rf Λ r :: As) C none C2) (hr : r < nR) (he : C r = .inr (ci, fs)) (hc : vwCl[ci]? = some cn) (hG : GoodIn Ts (wsV own index cn.1 y ws)) (hw : ws = Cond.code y bytes maxL ret :: ws') (hrc : rm.cells = 0) (hrs : rm.slots = 0)
    (hd : y.cls = cn.1 ∧ y.cls ≠ "java/lang/invoke/MethodHandle" ∧ y.cls ≠ "java/lang/invoke/VarHandle" ∧ (parseMethodDescriptor y.desc).map (fun d => d.parameters.length) = some n) (hR : rm.frames + 1 ≤ R0.frames ∧ 8 + (maxL + 11) + rm.locals ≤ R0.locals) (hn : As.length = n) (hs : st = As.reverse ++ rf Λ r :: rest) (hro : (rest.map fun v => v.category).sum ≤ 8) (hdg : decode cc pc = .ok (.invokevirtual index, 3))
    (k : V Λ κ C2 (pc + 3) lv rest) : V Λ κ C pc lv st := v_callV hC n r hM hr he hc hG hw hrc hrs hd hR hn hs hro hdg k
theorem v_callSr (hC : Ok Λ R0 cc Ts own nL0 κ) {y : MethodName} {ws ws' : List Cond} {rm : Room} {As : List Value} {v : Value} {bytes : ByteArray} {maxL index : Nat} {ret : Option FieldType} (n : Nat) (hM : Con Λ y ws rm As C (some v) C2) (hG : GoodIn Ts (va_wsS own index y ws)) (hw : ws = Cond.code y bytes maxL ret :: ws') (hrc : rm.cells = 0) (hrs : rm.slots = 0)
    (hd : y.cls ≠ "java/lang/invoke/MethodHandle" ∧ y.cls ≠ "java/lang/invoke/VarHandle" ∧ (parseMethodDescriptor y.desc).map (fun d => d.parameters.length) = some n) (hR : rm.frames + 1 ≤ R0.frames ∧ 8 + (maxL + 11) + rm.locals ≤ R0.locals) (hn : As.length = n) (hs : st = As.reverse ++ rest) (hro : (rest.map fun v => v.category).sum ≤ 8) (hdg : decode cc pc = .ok (.invokestatic index, 3))
    (k : V Λ κ C2 (pc + 3) lv (v :: rest)) : V Λ κ C pc lv st := v_callS hC n hM hG hw hrc hrs hd hR hn hs hro hdg k
theorem v_callSv (hC : Ok Λ R0 cc Ts own nL0 κ) {y : MethodName} {ws ws' : List Cond} {rm : Room} {As : List Value} {bytes : ByteArray} {maxL index : Nat} {ret : Option FieldType} (n : Nat) (hM : Con Λ y ws rm As C none C2) (hG : GoodIn Ts (va_wsS own index y ws)) (hw : ws = Cond.code y bytes maxL ret :: ws') (hrc : rm.cells = 0) (hrs : rm.slots = 0)
    (hd : y.cls ≠ "java/lang/invoke/MethodHandle" ∧ y.cls ≠ "java/lang/invoke/VarHandle" ∧ (parseMethodDescriptor y.desc).map (fun d => d.parameters.length) = some n) (hR : rm.frames + 1 ≤ R0.frames ∧ 8 + (maxL + 11) + rm.locals ≤ R0.locals) (hn : As.length = n) (hs : st = As.reverse ++ rest) (hro : (rest.map fun v => v.category).sum ≤ 8) (hdg : decode cc pc = .ok (.invokestatic index, 3))
    (k : V Λ κ C2 (pc + 3) lv rest) : V Λ κ C pc lv st := v_callS hC n hM hG hw hrc hrs hd hR hn hs hro hdg k
theorem v_callNr (hC : Ok Λ R0 cc Ts own nL0 κ) {y : MethodName} {ws ws' : List Cond} {rm : Room} {As : List Value} {v : Value} {bytes : ByteArray} {maxL index : Nat} {ret : Option FieldType} {host : String} (n : Nat) (hM : Con Λ y ws rm As C (some v) C2) (hG : GoodIn Ts ws) (hw : ws = Cond.code y bytes maxL ret :: ws') (hrc : rm.cells = 0) (hrs : rm.slots = 0) (hnw : Cond.methodLinkNest own index y host ∈ nst) (hini : Cond.initialized y.cls ∈ Ts) (hst : Cond.static y ∈ Ts)
    (hd : y.cls ≠ "java/lang/invoke/MethodHandle" ∧ y.cls ≠ "java/lang/invoke/VarHandle" ∧ (parseMethodDescriptor y.desc).map (fun d => d.parameters.length) = some n) (hR : rm.frames + 1 ≤ R0.frames ∧ 8 + (maxL + 11) + rm.locals ≤ R0.locals) (hn : As.length = n) (hs : st = As.reverse ++ rest) (hro : (rest.map fun v => v.category).sum ≤ 8) (hdg : decode cc pc = .ok (.invokestatic index, 3))
    (k : V Λ κ C2 (pc + 3) lv (v :: rest)) : V Λ κ C pc lv st := v_callN hC n hM hG hw hrc hrs hnw hini hst hd hR hn hs hro hdg k
theorem v_callNv (hC : Ok Λ R0 cc Ts own nL0 κ) {y : MethodName} {ws ws' : List Cond} {rm : Room} {As : List Value} {bytes : ByteArray} {maxL index : Nat} {ret : Option FieldType} {host : String} (n : Nat) (hM : Con Λ y ws rm As C none C2) (hG : GoodIn Ts ws) (hw : ws = Cond.code y bytes maxL ret :: ws') (hrc : rm.cells = 0) (hrs : rm.slots = 0) (hnw : Cond.methodLinkNest own index y host ∈ nst) (hini : Cond.initialized y.cls ∈ Ts) (hst : Cond.static y ∈ Ts)
    (hd : y.cls ≠ "java/lang/invoke/MethodHandle" ∧ y.cls ≠ "java/lang/invoke/VarHandle" ∧ (parseMethodDescriptor y.desc).map (fun d => d.parameters.length) = some n) (hR : rm.frames + 1 ≤ R0.frames ∧ 8 + (maxL + 11) + rm.locals ≤ R0.locals) (hn : As.length = n) (hs : st = As.reverse ++ rest) (hro : (rest.map fun v => v.category).sum ≤ 8) (hdg : decode cc pc = .ok (.invokestatic index, 3))
    (k : V Λ κ C2 (pc + 3) lv rest) : V Λ κ C pc lv st := v_callN hC n hM hG hw hrc hrs hnw hini hst hd hR hn hs hro hdg k
end CALLS2

def bI (b : Bool) : Int32 := if b then 1 else 0
theorem nar_b (b : Bool) : narrow .boolean (.int (bI b)) = .int (bI b) := by cases b <;> rfl
theorem bI_eq0 {b : Bool} : bI b = 0 ↔ b = false := by cases b <;> decide
theorem bI_inj {a b : Bool} : bI a = bI b ↔ a = b := by cases a <;> cases b <;> decide
theorem i32_ne {x k : Int32} {n : Int} (h : ¬ x = k) (hk : k.toInt = n) : x.toInt ≠ n := fun e => h (Int32.toInt_inj.mp (e.trans hk.symm))
section BR2
variable {Λ : Lk} {κ : Kx} {R0 : Room} {cc : ByteArray} {Ts : List Cond} {own : String} {nL0 : Nat} {C : Mem} {pc : Nat} {lv : Lvs} {st : List Value}
theorem v_beq (hC : Ok Λ R0 cc Ts own nL0 κ) {b : Bool} {off : Int} {tgt : Nat} (hdg : decode cc pc = .ok (.ifCond .eq off, 3)) (ht : (pc : Int) + off = (tgt : Int)) (kt : b = false → V Λ κ C tgt lv st) (kf : b = true → V Λ κ C (pc + 3) lv st) : V Λ κ C pc lv (.int (bI b) :: st) :=
  v_if_eq hC hdg ht (fun h => kt (bI_eq0.mp h)) (fun h => kf (by cases b with | true => rfl | false => exact absurd rfl h))
theorem v_bne (hC : Ok Λ R0 cc Ts own nL0 κ) {b : Bool} {off : Int} {tgt : Nat} (hdg : decode cc pc = .ok (.ifCond .ne off, 3)) (ht : (pc : Int) + off = (tgt : Int)) (kt : b = true → V Λ κ C tgt lv st) (kf : b = false → V Λ κ C (pc + 3) lv st) : V Λ κ C pc lv (.int (bI b) :: st) :=
  v_if_ne hC hdg ht (fun h => kt (by cases b with | true => rfl | false => exact absurd rfl h)) (fun h => kf (bI_eq0.mp h))
theorem v_beqT (hC : Ok Λ R0 cc Ts own nL0 κ) {b : Bool} {off : Int} {tgt : Nat} (hdg : decode cc pc = .ok (.ifCond .eq off, 3)) (ht : (pc : Int) + off = (tgt : Int)) (h : b = false) (kt : V Λ κ C tgt lv st) : V Λ κ C pc lv (.int (bI b) :: st) := v_beq hC hdg ht (fun _ => kt) (fun g => absurd (h.symm.trans g) (by decide))
theorem v_beqF (hC : Ok Λ R0 cc Ts own nL0 κ) {b : Bool} {off : Int} {tgt : Nat} (hdg : decode cc pc = .ok (.ifCond .eq off, 3)) (ht : (pc : Int) + off = (tgt : Int)) (h : b = true) (kf : V Λ κ C (pc + 3) lv st) : V Λ κ C pc lv (.int (bI b) :: st) := v_beq hC hdg ht (fun g => absurd (h.symm.trans g) (by decide)) (fun _ => kf)
theorem v_bneT (hC : Ok Λ R0 cc Ts own nL0 κ) {b : Bool} {off : Int} {tgt : Nat} (hdg : decode cc pc = .ok (.ifCond .ne off, 3)) (ht : (pc : Int) + off = (tgt : Int)) (h : b = true) (kt : V Λ κ C tgt lv st) : V Λ κ C pc lv (.int (bI b) :: st) := v_bne hC hdg ht (fun _ => kt) (fun g => absurd (h.symm.trans g) (by decide))
theorem v_bneF (hC : Ok Λ R0 cc Ts own nL0 κ) {b : Bool} {off : Int} {tgt : Nat} (hdg : decode cc pc = .ok (.ifCond .ne off, 3)) (ht : (pc : Int) + off = (tgt : Int)) (h : b = false) (kf : V Λ κ C (pc + 3) lv st) : V Λ κ C pc lv (.int (bI b) :: st) := v_bne hC hdg ht (fun g => absurd (h.symm.trans g) (by decide)) (fun _ => kf)
theorem v_ceq (hC : Ok Λ R0 cc Ts own nL0 κ) {a b : Bool} {x y : Int32} {off : Int} {tgt : Nat} (hdg : decode cc pc = .ok (.if_icmp .eq off, 3)) (ht : (pc : Int) + off = (tgt : Int)) (hx : x = bI a) (hy : y = bI b) (kt : a = b → V Λ κ C tgt lv st) (kf : ¬ a = b → V Λ κ C (pc + 3) lv st) : V Λ κ C pc lv (.int y :: .int x :: st) := by
  subst hx hy
  exact v_icmp_eq hC hdg ht (fun h => kt (bI_inj.mp h)) (fun h => kf (fun g => h (bI_inj.mpr g)))
theorem v_cne (hC : Ok Λ R0 cc Ts own nL0 κ) {a b : Bool} {x y : Int32} {off : Int} {tgt : Nat} (hdg : decode cc pc = .ok (.if_icmp .ne off, 3)) (ht : (pc : Int) + off = (tgt : Int)) (hx : x = bI a) (hy : y = bI b) (kt : ¬ a = b → V Λ κ C tgt lv st) (kf : a = b → V Λ κ C (pc + 3) lv st) : V Λ κ C pc lv (.int y :: .int x :: st) := by
  subst hx hy
  exact v_icmp_ne hC hdg ht (fun h => kt (fun g => h (bI_inj.mpr g))) (fun h => kf (bI_inj.mp h))
theorem v_neq (hC : Ok Λ R0 cc Ts own nL0 κ) {a b : Nat} {x y : Int32} {off : Int} {tgt : Nat} (hdg : decode cc pc = .ok (.if_icmp .eq off, 3)) (ht : (pc : Int) + off = (tgt : Int)) (hx : x = nI a) (hy : y = nI b) (ha : a < 2 ^ 31) (hb : b < 2 ^ 31) (kt : a = b → V Λ κ C tgt lv st) (kf : a ≠ b → V Λ κ C (pc + 3) lv st) : V Λ κ C pc lv (.int y :: .int x :: st) := by
  subst hx hy
  exact v_icmp_eq hC hdg ht (fun h => kt ((nI_eq ha hb).mp h)) (fun h => kf (fun g => h ((nI_eq ha hb).mpr g)))
theorem v_nne (hC : Ok Λ R0 cc Ts own nL0 κ) {a b : Nat} {x y : Int32} {off : Int} {tgt : Nat} (hdg : decode cc pc = .ok (.if_icmp .ne off, 3)) (ht : (pc : Int) + off = (tgt : Int)) (hx : x = nI a) (hy : y = nI b) (ha : a < 2 ^ 31) (hb : b < 2 ^ 31) (kt : a ≠ b → V Λ κ C tgt lv st) (kf : a = b → V Λ κ C (pc + 3) lv st) : V Λ κ C pc lv (.int y :: .int x :: st) := by
  subst hx hy
  exact v_icmp_ne hC hdg ht (fun h => kt (fun g => h ((nI_eq ha hb).mpr g))) (fun h => kf ((nI_eq ha hb).mp h))
theorem v_nlt (hC : Ok Λ R0 cc Ts own nL0 κ) {a b : Nat} {x y : Int32} {off : Int} {tgt : Nat} (hdg : decode cc pc = .ok (.if_icmp .lt off, 3)) (ht : (pc : Int) + off = (tgt : Int)) (hx : x = nI a) (hy : y = nI b) (ha : a < 2 ^ 31) (hb : b < 2 ^ 31) (kt : a < b → V Λ κ C tgt lv st) (kf : b ≤ a → V Λ κ C (pc + 3) lv st) : V Λ κ C pc lv (.int y :: .int x :: st) := by
  subst hx hy
  exact v_icmp_lt hC hdg ht (fun h => kt ((nI_ltI ha hb).mp h)) (fun h => kf (Nat.le_of_not_lt (fun g => h ((nI_ltI ha hb).mpr g))))
theorem v_nge (hC : Ok Λ R0 cc Ts own nL0 κ) {a b : Nat} {x y : Int32} {off : Int} {tgt : Nat} (hdg : decode cc pc = .ok (.if_icmp .ge off, 3)) (ht : (pc : Int) + off = (tgt : Int)) (hx : x = nI a) (hy : y = nI b) (ha : a < 2 ^ 31) (hb : b < 2 ^ 31) (kt : b ≤ a → V Λ κ C tgt lv st) (kf : a < b → V Λ κ C (pc + 3) lv st) : V Λ κ C pc lv (.int y :: .int x :: st) := by
  subst hx hy
  exact v_icmp_ge hC hdg ht (fun h => kt ((nI_leI hb ha).mp h)) (fun h => kf (Nat.lt_of_not_le (fun g => h ((nI_leI hb ha).mpr g))))
theorem v_ngt (hC : Ok Λ R0 cc Ts own nL0 κ) {a b : Nat} {x y : Int32} {off : Int} {tgt : Nat} (hdg : decode cc pc = .ok (.if_icmp .gt off, 3)) (ht : (pc : Int) + off = (tgt : Int)) (hx : x = nI a) (hy : y = nI b) (ha : a < 2 ^ 31) (hb : b < 2 ^ 31) (kt : b < a → V Λ κ C tgt lv st) (kf : a ≤ b → V Λ κ C (pc + 3) lv st) : V Λ κ C pc lv (.int y :: .int x :: st) := by
  subst hx hy
  exact v_icmp_gt hC hdg ht (fun h => kt ((nI_ltI hb ha).mp h)) (fun h => kf (Nat.le_of_not_lt (fun g => h ((nI_ltI hb ha).mpr g))))
theorem v_nle (hC : Ok Λ R0 cc Ts own nL0 κ) {a b : Nat} {x y : Int32} {off : Int} {tgt : Nat} (hdg : decode cc pc = .ok (.if_icmp .le off, 3)) (ht : (pc : Int) + off = (tgt : Int)) (hx : x = nI a) (hy : y = nI b) (ha : a < 2 ^ 31) (hb : b < 2 ^ 31) (kt : a ≤ b → V Λ κ C tgt lv st) (kf : b < a → V Λ κ C (pc + 3) lv st) : V Λ κ C pc lv (.int y :: .int x :: st) := by
  subst hx hy
  exact v_icmp_le hC hdg ht (fun h => kt ((nI_leI ha hb).mp h)) (fun h => kf (Nat.lt_of_not_le (fun g => h ((nI_leI ha hb).mpr g))))
theorem v_zeq (hC : Ok Λ R0 cc Ts own nL0 κ) {a : Nat} {x : Int32} {off : Int} {tgt : Nat} (hdg : decode cc pc = .ok (.ifCond .eq off, 3)) (ht : (pc : Int) + off = (tgt : Int)) (hx : x = nI a) (ha : a < 2 ^ 31) (kt : a = 0 → V Λ κ C tgt lv st) (kf : a ≠ 0 → V Λ κ C (pc + 3) lv st) : V Λ κ C pc lv (.int x :: st) := by
  subst hx
  have hb : (0 : Nat) < 2 ^ 31 := by decide
  have e1 := nI_eq ha hb
  have e2 := nI_ltI ha hb
  have e3 := nI_leI ha hb
  have e4 := nI_ltI hb ha
  have e5 := nI_leI hb ha
  rw [nI_0] at e1 e2 e3 e4 e5
  exact v_if_eq hC hdg ht (fun h => kt (by simp only [e1, e2, e3, e4, e5] at h; first | exact h | omega | trivial)) (fun h => kf (by simp only [e1, e2, e3, e4, e5] at h; first | exact h | omega | trivial))
theorem v_zne (hC : Ok Λ R0 cc Ts own nL0 κ) {a : Nat} {x : Int32} {off : Int} {tgt : Nat} (hdg : decode cc pc = .ok (.ifCond .ne off, 3)) (ht : (pc : Int) + off = (tgt : Int)) (hx : x = nI a) (ha : a < 2 ^ 31) (kt : a ≠ 0 → V Λ κ C tgt lv st) (kf : a = 0 → V Λ κ C (pc + 3) lv st) : V Λ κ C pc lv (.int x :: st) := by
  subst hx
  have hb : (0 : Nat) < 2 ^ 31 := by decide
  have e1 := nI_eq ha hb
  have e2 := nI_ltI ha hb
  have e3 := nI_leI ha hb
  have e4 := nI_ltI hb ha
  have e5 := nI_leI hb ha
  rw [nI_0] at e1 e2 e3 e4 e5
  exact v_if_ne hC hdg ht (fun h => kt (by simp only [e1, e2, e3, e4, e5] at h; first | exact h | omega | trivial)) (fun h => kf (by simp only [e1, e2, e3, e4, e5] at h; first | exact h | omega | trivial))
theorem v_zlt (hC : Ok Λ R0 cc Ts own nL0 κ) {a : Nat} {x : Int32} {off : Int} {tgt : Nat} (hdg : decode cc pc = .ok (.ifCond .lt off, 3)) (ht : (pc : Int) + off = (tgt : Int)) (hx : x = nI a) (ha : a < 2 ^ 31) (kt : False → V Λ κ C tgt lv st) (kf : True → V Λ κ C (pc + 3) lv st) : V Λ κ C pc lv (.int x :: st) := by
  subst hx
  have hb : (0 : Nat) < 2 ^ 31 := by decide
  have e1 := nI_eq ha hb
  have e2 := nI_ltI ha hb
  have e3 := nI_leI ha hb
  have e4 := nI_ltI hb ha
  have e5 := nI_leI hb ha
  rw [nI_0] at e1 e2 e3 e4 e5
  exact v_if_lt hC hdg ht (fun h => kt (by simp only [e1, e2, e3, e4, e5] at h; first | exact h | omega | trivial)) (fun h => kf (by simp only [e1, e2, e3, e4, e5] at h; first | exact h | omega | trivial))
theorem v_zge (hC : Ok Λ R0 cc Ts own nL0 κ) {a : Nat} {x : Int32} {off : Int} {tgt : Nat} (hdg : decode cc pc = .ok (.ifCond .ge off, 3)) (ht : (pc : Int) + off = (tgt : Int)) (hx : x = nI a) (ha : a < 2 ^ 31) (kt : True → V Λ κ C tgt lv st) (kf : False → V Λ κ C (pc + 3) lv st) : V Λ κ C pc lv (.int x :: st) := by
  subst hx
  have hb : (0 : Nat) < 2 ^ 31 := by decide
  have e1 := nI_eq ha hb
  have e2 := nI_ltI ha hb
  have e3 := nI_leI ha hb
  have e4 := nI_ltI hb ha
  have e5 := nI_leI hb ha
  rw [nI_0] at e1 e2 e3 e4 e5
  exact v_if_ge hC hdg ht (fun h => kt (by simp only [e1, e2, e3, e4, e5] at h; first | exact h | omega | trivial)) (fun h => kf (by simp only [e1, e2, e3, e4, e5] at h; first | exact h | omega | trivial))
theorem v_zgt (hC : Ok Λ R0 cc Ts own nL0 κ) {a : Nat} {x : Int32} {off : Int} {tgt : Nat} (hdg : decode cc pc = .ok (.ifCond .gt off, 3)) (ht : (pc : Int) + off = (tgt : Int)) (hx : x = nI a) (ha : a < 2 ^ 31) (kt : 0 < a → V Λ κ C tgt lv st) (kf : a = 0 → V Λ κ C (pc + 3) lv st) : V Λ κ C pc lv (.int x :: st) := by
  subst hx
  have hb : (0 : Nat) < 2 ^ 31 := by decide
  have e1 := nI_eq ha hb
  have e2 := nI_ltI ha hb
  have e3 := nI_leI ha hb
  have e4 := nI_ltI hb ha
  have e5 := nI_leI hb ha
  rw [nI_0] at e1 e2 e3 e4 e5
  exact v_if_gt hC hdg ht (fun h => kt (by simp only [e1, e2, e3, e4, e5] at h; first | exact h | omega | trivial)) (fun h => kf (by simp only [e1, e2, e3, e4, e5] at h; first | exact h | omega | trivial))
theorem v_zle (hC : Ok Λ R0 cc Ts own nL0 κ) {a : Nat} {x : Int32} {off : Int} {tgt : Nat} (hdg : decode cc pc = .ok (.ifCond .le off, 3)) (ht : (pc : Int) + off = (tgt : Int)) (hx : x = nI a) (ha : a < 2 ^ 31) (kt : a = 0 → V Λ κ C tgt lv st) (kf : 0 < a → V Λ κ C (pc + 3) lv st) : V Λ κ C pc lv (.int x :: st) := by
  subst hx
  have hb : (0 : Nat) < 2 ^ 31 := by decide
  have e1 := nI_eq ha hb
  have e2 := nI_ltI ha hb
  have e3 := nI_leI ha hb
  have e4 := nI_ltI hb ha
  have e5 := nI_leI hb ha
  rw [nI_0] at e1 e2 e3 e4 e5
  exact v_if_le hC hdg ht (fun h => kt (by simp only [e1, e2, e3, e4, e5] at h; first | exact h | omega | trivial)) (fun h => kf (by simp only [e1, e2, e3, e4, e5] at h; first | exact h | omega | trivial))
theorem v_tabIn (hC : Ok Λ R0 cc Ts own nL0 κ) {dflt lo hi : Int} {offs : Array Int} {len : Nat} {x : Int32} {off : Int} {tgt : Nat} (hdg : decode cc pc = .ok (.tableswitch dflt lo hi offs, len)) (h1 : ¬ x.toInt < lo) (h2 : ¬ hi < x.toInt) (ho : offs[(x.toInt - lo).toNat]? = some off) (ht : (pc : Int) + off = (tgt : Int)) (k : V Λ κ C tgt lv st) : V Λ κ C pc lv (.int x :: st) := by
  obtain ⟨p, e, R, s, m, args, below, meth, c, nL, kc, ks', Q⟩ := κ
  exact fun H locs ls hP hD hS hl => lv_tableIn hC.1.1 hC.1.2.1 hdg h1 h2 ho ht (k H locs ls hP hD hS hl)
theorem v_tabOut (hC : Ok Λ R0 cc Ts own nL0 κ) {dflt lo hi : Int} {offs : Array Int} {len : Nat} {x : Int32} {tgt : Nat} (hdg : decode cc pc = .ok (.tableswitch dflt lo hi offs, len)) (h : x.toInt < lo ∨ hi < x.toInt) (ht : (pc : Int) + dflt = (tgt : Int)) (k : V Λ κ C tgt lv st) : V Λ κ C pc lv (.int x :: st) := by
  obtain ⟨p, e, R, s, m, args, below, meth, c, nL, kc, ks', Q⟩ := κ
  exact fun H locs ls hP hD hS hl => lv_tableOut hC.1.1 hC.1.2.1 hdg h ht (k H locs ls hP hD hS hl)
theorem v_look (hC : Ok Λ R0 cc Ts own nL0 κ) {dflt : Int} {ps : Array (Int × Int)} {len : Nat} {x : Int32} {off : Int} {tgt : Nat} (hdg : decode cc pc = .ok (.lookupswitch dflt ps, len)) (hp : (ps.toList.zip (ps.toList.drop 1)).all (fun (a, next) => a.1 < next.1) = true) (ho : Op.lookupswitch.offset ps.toList dflt x.toInt = off) (ht : (pc : Int) + off = (tgt : Int)) (k : V Λ κ C tgt lv st) : V Λ κ C pc lv (.int x :: st) := by
  obtain ⟨p, e, R, s, m, args, below, meth, c, nL, kc, ks', Q⟩ := κ
  exact fun H locs ls hP hD hS hl => lv_lookup hC.1.1 hC.1.2.1 hdg hp ho ht (k H locs ls hP hD hS hl)
end BR2
end
section
/-! The state. Roles: a fleet i (i < 37: 6 * h + j for the fleet j of the harbour h; 36 the trial) has 5 * i (object), + 1 words, + 2 kinds, + 3 sizes, + 4 runs;
a harbour h (0 now, 1 snapshot, 2 to 5 the states) 185 + 2 * h and its row 186 + 2 * h; 197 the BoatSets, 198 the History, 199 its row, 200 the RangeText, 201 characters, 202 firsts, 203 lasts;
204 the reference, 205 now, 206 past, 207 kept, 208 trial, 209 text, 210 given, 211 numbers -/
abbrev FR : Type := (Nat → Int64) × (Nat → Int32) × (Nat → Int32) × (Nat → Int32) × Int32 × Int32 × Int32
abbrev fw (f : FR) : Nat → Int64 := f.1
abbrev fk (f : FR) : Nat → Int32 := f.2.1
abbrev fs (f : FR) : Nat → Int32 := f.2.2.1
abbrev fr (f : FR) : Nat → Int32 := f.2.2.2.1
abbrev fp (f : FR) : Int32 := f.2.2.2.2.1
abbrev fd (f : FR) : Int32 := f.2.2.2.2.2.1
abbrev fa (f : FR) : Int32 := f.2.2.2.2.2.2
abbrev fwS (f : FR) (v : Nat → Int64) : FR := (v, fk f, fs f, fr f, fp f, fd f, fa f)
abbrev fkS (f : FR) (v : Nat → Int32) : FR := (fw f, v, fs f, fr f, fp f, fd f, fa f)
abbrev fsS (f : FR) (v : Nat → Int32) : FR := (fw f, fk f, v, fr f, fp f, fd f, fa f)
abbrev frS (f : FR) (v : Nat → Int32) : FR := (fw f, fk f, fs f, v, fp f, fd f, fa f)
abbrev fpS (f : FR) (v : Int32) : FR := (fw f, fk f, fs f, fr f, v, fd f, fa f)
abbrev fdS (f : FR) (v : Int32) : FR := (fw f, fk f, fs f, fr f, fp f, v, fa f)
abbrev faS (f : FR) (v : Int32) : FR := (fw f, fk f, fs f, fr f, fp f, fd f, v)
/-- the class: fleets, the sets of each harbour, the order of the states, how many states, whether there is a snapshot, characters, firsts, lasts, length, ranges -/
abbrev XS : Type := (Nat → FR) × (Nat → Int32) × (Nat → Nat) × Int32 × Int32 × (Nat → Int32) × (Nat → Int32) × (Nat → Int32) × Int32 × Int32
abbrev xF (X : XS) : Nat → FR := X.1
abbrev xh (X : XS) : Nat → Int32 := X.2.1
abbrev xq (X : XS) : Nat → Nat := X.2.2.1
abbrev xz (X : XS) : Int32 := X.2.2.2.1
abbrev xn (X : XS) : Int32 := X.2.2.2.2.1
abbrev xc (X : XS) : Nat → Int32 := X.2.2.2.2.2.1
abbrev xb (X : XS) : Nat → Int32 := X.2.2.2.2.2.2.1
abbrev xe (X : XS) : Nat → Int32 := X.2.2.2.2.2.2.2.1
abbrev xl (X : XS) : Int32 := X.2.2.2.2.2.2.2.2.1
abbrev xm (X : XS) : Int32 := X.2.2.2.2.2.2.2.2.2
abbrev xFS (X : XS) (v : Nat → FR) : XS := (v, xh X, xq X, xz X, xn X, xc X, xb X, xe X, xl X, xm X)
abbrev xhS (X : XS) (v : Nat → Int32) : XS := (xF X, v, xq X, xz X, xn X, xc X, xb X, xe X, xl X, xm X)
abbrev xqS (X : XS) (v : Nat → Nat) : XS := (xF X, xh X, v, xz X, xn X, xc X, xb X, xe X, xl X, xm X)
abbrev xzS (X : XS) (v : Int32) : XS := (xF X, xh X, xq X, v, xn X, xc X, xb X, xe X, xl X, xm X)
abbrev xnS (X : XS) (v : Int32) : XS := (xF X, xh X, xq X, xz X, v, xc X, xb X, xe X, xl X, xm X)
abbrev xcS (X : XS) (v : Nat → Int32) : XS := (xF X, xh X, xq X, xz X, xn X, v, xb X, xe X, xl X, xm X)
abbrev xbS (X : XS) (v : Nat → Int32) : XS := (xF X, xh X, xq X, xz X, xn X, xc X, v, xe X, xl X, xm X)
abbrev xeS (X : XS) (v : Nat → Int32) : XS := (xF X, xh X, xq X, xz X, xn X, xc X, xb X, v, xl X, xm X)
abbrev xlS (X : XS) (v : Int32) : XS := (xF X, xh X, xq X, xz X, xn X, xc X, xb X, xe X, v, xm X)
abbrev xmS (X : XS) (v : Int32) : XS := (xF X, xh X, xq X, xz X, xn X, xc X, xb X, xe X, xl X, v)
/-- the reference: now, past, kept, trial, text, given, numbers; pasts, isKept, typed, looked, readMany, at -/
abbrev YS : Type := (Nat → Int32) × (Nat → Int32) × (Nat → Int32) × (Nat → Int32) × (Nat → Int32) × (Nat → Int32) × (Nat → Int32) × Int32 × Int32 × Int32 × Int32 × Int32 × Int32
abbrev yn (Y : YS) : Nat → Int32 := Y.1
abbrev yp (Y : YS) : Nat → Int32 := Y.2.1
abbrev yk (Y : YS) : Nat → Int32 := Y.2.2.1
abbrev yt (Y : YS) : Nat → Int32 := Y.2.2.2.1
abbrev yx (Y : YS) : Nat → Int32 := Y.2.2.2.2.1
abbrev yg (Y : YS) : Nat → Int32 := Y.2.2.2.2.2.1
abbrev yu (Y : YS) : Nat → Int32 := Y.2.2.2.2.2.2.1
abbrev yz (Y : YS) : Int32 := Y.2.2.2.2.2.2.2.1
abbrev yi (Y : YS) : Int32 := Y.2.2.2.2.2.2.2.2.1
abbrev yy (Y : YS) : Int32 := Y.2.2.2.2.2.2.2.2.2.1
abbrev yo (Y : YS) : Int32 := Y.2.2.2.2.2.2.2.2.2.2.1
abbrev ym (Y : YS) : Int32 := Y.2.2.2.2.2.2.2.2.2.2.2.1
abbrev ya (Y : YS) : Int32 := Y.2.2.2.2.2.2.2.2.2.2.2.2
abbrev ynS (Y : YS) (v : Nat → Int32) : YS := (v, yp Y, yk Y, yt Y, yx Y, yg Y, yu Y, yz Y, yi Y, yy Y, yo Y, ym Y, ya Y)
abbrev ypS (Y : YS) (v : Nat → Int32) : YS := (yn Y, v, yk Y, yt Y, yx Y, yg Y, yu Y, yz Y, yi Y, yy Y, yo Y, ym Y, ya Y)
abbrev ykS (Y : YS) (v : Nat → Int32) : YS := (yn Y, yp Y, v, yt Y, yx Y, yg Y, yu Y, yz Y, yi Y, yy Y, yo Y, ym Y, ya Y)
abbrev ytS (Y : YS) (v : Nat → Int32) : YS := (yn Y, yp Y, yk Y, v, yx Y, yg Y, yu Y, yz Y, yi Y, yy Y, yo Y, ym Y, ya Y)
abbrev yxS (Y : YS) (v : Nat → Int32) : YS := (yn Y, yp Y, yk Y, yt Y, v, yg Y, yu Y, yz Y, yi Y, yy Y, yo Y, ym Y, ya Y)
abbrev ygS (Y : YS) (v : Nat → Int32) : YS := (yn Y, yp Y, yk Y, yt Y, yx Y, v, yu Y, yz Y, yi Y, yy Y, yo Y, ym Y, ya Y)
abbrev yuS (Y : YS) (v : Nat → Int32) : YS := (yn Y, yp Y, yk Y, yt Y, yx Y, yg Y, v, yz Y, yi Y, yy Y, yo Y, ym Y, ya Y)
abbrev yzS (Y : YS) (v : Int32) : YS := (yn Y, yp Y, yk Y, yt Y, yx Y, yg Y, yu Y, v, yi Y, yy Y, yo Y, ym Y, ya Y)
abbrev yiS (Y : YS) (v : Int32) : YS := (yn Y, yp Y, yk Y, yt Y, yx Y, yg Y, yu Y, yz Y, v, yy Y, yo Y, ym Y, ya Y)
abbrev yyS (Y : YS) (v : Int32) : YS := (yn Y, yp Y, yk Y, yt Y, yx Y, yg Y, yu Y, yz Y, yi Y, v, yo Y, ym Y, ya Y)
abbrev yoS (Y : YS) (v : Int32) : YS := (yn Y, yp Y, yk Y, yt Y, yx Y, yg Y, yu Y, yz Y, yi Y, yy Y, v, ym Y, ya Y)
abbrev ymS (Y : YS) (v : Int32) : YS := (yn Y, yp Y, yk Y, yt Y, yx Y, yg Y, yu Y, yz Y, yi Y, yy Y, yo Y, v, ya Y)
abbrev yaS (Y : YS) (v : Int32) : YS := (yn Y, yp Y, yk Y, yt Y, yx Y, yg Y, yu Y, yz Y, yi Y, yy Y, yo Y, ym Y, v)
def xFi (X : XS) (i : Nat) (f : FR) : XS := (va_up X.1 i f, X.2)
theorem xFi_at (X : XS) (i : Nat) (f : FR) : (xFi X i f).1 i = f := va_up_self _ _ _
theorem xFi_ne (X : XS) {i j : Nat} (f : FR) (h : j ≠ i) : (xFi X i f).1 j = X.1 j := va_up_ne _ _ h
theorem xFi_2 (X : XS) (i : Nat) (f g : FR) : xFi (xFi X i f) i g = xFi X i g := by
  unfold xFi
  refine Prod.ext (funext fun j => ?_) rfl
  by_cases h : j = i
  · subst h; simp [va_up]
  · simp [va_up, h]
theorem xFi_self {X : XS} {i : Nat} {f : FR} (h : X.1 i = f) : X = xFi X i f := by
  subst h
  refine Prod.ext (funext fun j => ?_) rfl
  by_cases h : j = i
  · subst h; simp [xFi, va_up]
  · simp [xFi, va_up, h]
def fcell (Λ : Lk) (i c : Nat) (f : FR) : va_E :=
  if c = 0 then .inr (0, [rf Λ (5 * i + 1), rf Λ (5 * i + 2), rf Λ (5 * i + 3), rf Λ (5 * i + 4), .int (fp f), .int (fd f), .int (fa f)])
  else if c = 1 then .inl (Λ.2.2.2.1 0, 32, .inr (.inl (fw f)))
  else if c = 2 then .inl (Λ.2.2.2.1 1, 8, .inl (fk f))
  else if c = 3 then .inl (Λ.2.2.2.1 1, 8, .inl (fs f))
  else .inl (Λ.2.2.2.1 1, 8, .inl (fr f))
def hcell (Λ : Lk) (X : XS) (r : Nat) : va_E := if r % 2 = 1 then .inr (1, [rf Λ (r + 1), .int (xh X ((r - 185) / 2))]) else .inl (Λ.2.2.2.1 3, 6, .inr (.inr (.inr (.inr (fun j => some (Λ.2.1 (5 * (6 * ((r - 186) / 2) + j))))))))
/-- the memory by roles -/
def CC (Λ : Lk) (X : XS) (Y : YS) : Mem := fun r =>
  if r < 185 then fcell Λ (r / 5) (r % 5) (xF X (r / 5))
  else if r < 197 then hcell Λ X r
  else if r = 197 then (.inr (4, [rf Λ 185, rf Λ 187, rf Λ 198, rf Λ 200, rf Λ 180, .int (xn X)]))
  else if r = 198 then (.inr (2, [rf Λ 199, .int (xz X)]))
  else if r = 199 then (.inl (Λ.2.2.2.1 4, 4, .inr (.inr (.inr (.inr (fun j => some (Λ.2.1 (189 + 2 * xq X j))))))))
  else if r = 200 then (.inr (3, [rf Λ 201, rf Λ 202, rf Λ 203, .int (xl X), .int (xm X)]))
  else if r = 201 then (.inl (Λ.2.2.2.1 2, 60, .inl (xc X)))
  else if r = 202 then (.inl (Λ.2.2.2.1 1, 30, .inl (xb X)))
  else if r = 203 then (.inl (Λ.2.2.2.1 1, 30, .inl (xe X)))
  else if r = 204 then (.inr (5, [rf Λ 205, rf Λ 206, .int (yz Y), rf Λ 207, .int (yi Y), rf Λ 208, rf Λ 209, .int (yy Y), .int (yo Y), rf Λ 210, rf Λ 211, .int (ym Y), .int (ya Y)]))
  else if r = 205 then (.inl (Λ.2.2.2.1 1, 451, .inl (yn Y)))
  else if r = 206 then (.inl (Λ.2.2.2.1 1, 1804, .inl (yp Y)))
  else if r = 207 then (.inl (Λ.2.2.2.1 1, 451, .inl (yk Y)))
  else if r = 208 then (.inl (Λ.2.2.2.1 1, 451, .inl (yt Y)))
  else if r = 209 then (.inl (Λ.2.2.2.1 1, 60, .inl (yx Y)))
  else if r = 210 then (.inl (Λ.2.2.2.1 1, 64, .inl (yg Y)))
  else if r = 211 then (.inl (Λ.2.2.2.1 1, 60, .inl (yu Y)))
  else .inl (Λ.2.2.2.1 1, 0, .inl (fun _ => 0))
theorem cc_197 (Λ : Lk) (X : XS) (Y : YS) : CC Λ X Y 197 = .inr (4, [rf Λ 185, rf Λ 187, rf Λ 198, rf Λ 200, rf Λ 180, .int (xn X)]) := rfl
theorem cc_198 (Λ : Lk) (X : XS) (Y : YS) : CC Λ X Y 198 = .inr (2, [rf Λ 199, .int (xz X)]) := rfl
theorem cc_199 (Λ : Lk) (X : XS) (Y : YS) : CC Λ X Y 199 = .inl (Λ.2.2.2.1 4, 4, .inr (.inr (.inr (.inr (fun j => some (Λ.2.1 (189 + 2 * xq X j))))))) := rfl
theorem cc_200 (Λ : Lk) (X : XS) (Y : YS) : CC Λ X Y 200 = .inr (3, [rf Λ 201, rf Λ 202, rf Λ 203, .int (xl X), .int (xm X)]) := rfl
theorem cc_201 (Λ : Lk) (X : XS) (Y : YS) : CC Λ X Y 201 = .inl (Λ.2.2.2.1 2, 60, .inl (xc X)) := rfl
theorem cc_202 (Λ : Lk) (X : XS) (Y : YS) : CC Λ X Y 202 = .inl (Λ.2.2.2.1 1, 30, .inl (xb X)) := rfl
theorem cc_203 (Λ : Lk) (X : XS) (Y : YS) : CC Λ X Y 203 = .inl (Λ.2.2.2.1 1, 30, .inl (xe X)) := rfl
theorem cc_204 (Λ : Lk) (X : XS) (Y : YS) : CC Λ X Y 204 = .inr (5, [rf Λ 205, rf Λ 206, .int (yz Y), rf Λ 207, .int (yi Y), rf Λ 208, rf Λ 209, .int (yy Y), .int (yo Y), rf Λ 210, rf Λ 211, .int (ym Y), .int (ya Y)]) := rfl
theorem cc_205 (Λ : Lk) (X : XS) (Y : YS) : CC Λ X Y 205 = .inl (Λ.2.2.2.1 1, 451, .inl (yn Y)) := rfl
theorem cc_206 (Λ : Lk) (X : XS) (Y : YS) : CC Λ X Y 206 = .inl (Λ.2.2.2.1 1, 1804, .inl (yp Y)) := rfl
theorem cc_207 (Λ : Lk) (X : XS) (Y : YS) : CC Λ X Y 207 = .inl (Λ.2.2.2.1 1, 451, .inl (yk Y)) := rfl
theorem cc_208 (Λ : Lk) (X : XS) (Y : YS) : CC Λ X Y 208 = .inl (Λ.2.2.2.1 1, 451, .inl (yt Y)) := rfl
theorem cc_209 (Λ : Lk) (X : XS) (Y : YS) : CC Λ X Y 209 = .inl (Λ.2.2.2.1 1, 60, .inl (yx Y)) := rfl
theorem cc_210 (Λ : Lk) (X : XS) (Y : YS) : CC Λ X Y 210 = .inl (Λ.2.2.2.1 1, 64, .inl (yg Y)) := rfl
theorem cc_211 (Λ : Lk) (X : XS) (Y : YS) : CC Λ X Y 211 = .inl (Λ.2.2.2.1 1, 60, .inl (yu Y)) := rfl
theorem nR_of {r : Nat} (h : r < 212) : r < nR := h
theorem cc_f (Λ : Lk) {X : XS} (Y : YS) {i c : Nat} {f : FR} (hi : i < 37) (hc : c < 5) (hf : X.1 i = f) : CC Λ X Y (5 * i + c) = fcell Λ i c f := by
  unfold CC
  rw [if_pos (by omega), show (5 * i + c) / 5 = i by omega, show (5 * i + c) % 5 = c by omega, ← hf]
theorem cc_f0 (Λ : Lk) {X : XS} (Y : YS) {i : Nat} {f : FR} (hi : i < 37) (hf : X.1 i = f) : CC Λ X Y (5 * i) = .inr (0, [rf Λ (5 * i + 1), rf Λ (5 * i + 2), rf Λ (5 * i + 3), rf Λ (5 * i + 4), .int (fp f), .int (fd f), .int (fa f)]) := cc_f Λ Y (c := 0) hi (by omega) hf
theorem cc_f1 (Λ : Lk) {X : XS} (Y : YS) {i : Nat} {f : FR} (hi : i < 37) (hf : X.1 i = f) : CC Λ X Y (5 * i + 1) = .inl (Λ.2.2.2.1 0, 32, .inr (.inl (fw f))) := cc_f Λ Y (c := 1) hi (by omega) hf
theorem cc_f2 (Λ : Lk) {X : XS} (Y : YS) {i : Nat} {f : FR} (hi : i < 37) (hf : X.1 i = f) : CC Λ X Y (5 * i + 2) = .inl (Λ.2.2.2.1 1, 8, .inl (fk f)) := cc_f Λ Y (c := 2) hi (by omega) hf
theorem cc_f3 (Λ : Lk) {X : XS} (Y : YS) {i : Nat} {f : FR} (hi : i < 37) (hf : X.1 i = f) : CC Λ X Y (5 * i + 3) = .inl (Λ.2.2.2.1 1, 8, .inl (fs f)) := cc_f Λ Y (c := 3) hi (by omega) hf
theorem cc_f4 (Λ : Lk) {X : XS} (Y : YS) {i : Nat} {f : FR} (hi : i < 37) (hf : X.1 i = f) : CC Λ X Y (5 * i + 4) = .inl (Λ.2.2.2.1 1, 8, .inl (fr f)) := cc_f Λ Y (c := 4) hi (by omega) hf
theorem rb_f {i c : Nat} (hi : i < 37) (hc : c < 5) : 5 * i + c < nR := by unfold nR; omega
theorem rb_f0 {i : Nat} (hi : i < 37) : 5 * i < nR := by unfold nR; omega
theorem cc_h (Λ : Lk) (X : XS) (Y : YS) {h : Nat} (hh : h < 6) : CC Λ X Y (185 + 2 * h) = .inr (1, [rf Λ (186 + 2 * h), .int (xh X h)]) := by
  unfold CC hcell
  rw [if_neg (by omega), if_pos (by omega), if_pos (by omega), show 185 + 2 * h + 1 = 186 + 2 * h by omega, show (185 + 2 * h - 185) / 2 = h by omega]
theorem cc_hr (Λ : Lk) (X : XS) (Y : YS) {h : Nat} (hh : h < 6) : CC Λ X Y (186 + 2 * h) = .inl (Λ.2.2.2.1 3, 6, .inr (.inr (.inr (.inr (fun j => some (Λ.2.1 (5 * (6 * h + j)))))))) := by
  unfold CC hcell
  rw [if_neg (by omega), if_pos (by omega), if_neg (by omega), show (186 + 2 * h - 186) / 2 = h by omega]
theorem rb_h {h : Nat} (hh : h < 6) : 185 + 2 * h < nR := by unfold nR; omega
theorem rb_hr {h : Nat} (hh : h < 6) : 186 + 2 * h < nR := by unfold nR; omega
/-- a fleet's cell is written -/
theorem cs_f (Λ : Lk) (X : XS) (Y : YS) {i c : Nat} (f g : FR) {e : va_E} (hi : i < 37) (hc : c < 5) (he : e = fcell Λ i c g) (ho : ∀ c', c' < 5 → c' ≠ c → fcell Λ i c' g = fcell Λ i c' f) : va_up (CC Λ (xFi X i f) Y) (5 * i + c) e = CC Λ (xFi X i g) Y := by
  funext r
  by_cases hr : r = 5 * i + c
  · subst hr
    rw [va_up_self, he, cc_f Λ Y hi hc (xFi_at X i g)]
  · rw [va_up_ne _ _ hr]
    by_cases h1 : r < 185
    · by_cases h2 : r / 5 = i
      · have e1 : r = 5 * i + r % 5 := by omega
        have h3 : r % 5 < 5 := by omega
        have h4 : r % 5 ≠ c := by omega
        rw [e1, cc_f Λ Y hi h3 (xFi_at X i f), cc_f Λ Y hi h3 (xFi_at X i g)]
        exact (ho _ h3 h4).symm
      · unfold CC
        rw [if_pos h1, if_pos h1]
        show fcell Λ (r / 5) (r % 5) ((xFi X i f).1 (r / 5)) = fcell Λ (r / 5) (r % 5) ((xFi X i g).1 (r / 5))
        rw [xFi_ne X f h2, xFi_ne X g h2]
    · unfold CC
      rw [if_neg h1, if_neg h1]
      rfl
theorem cs_hs (Λ : Lk) (X : XS) (Y : YS) {h : Nat} (hh : h < 6) (v : Int32) : va_up (CC Λ X Y) (185 + 2 * h) (.inr (1, [rf Λ (186 + 2 * h), .int v])) = CC Λ (xhS X (va_up (xh X) h v)) Y := by
  funext r
  by_cases hr : r = 185 + 2 * h
  · subst hr
    rw [va_up_self, cc_h Λ _ Y hh]
    show _ = Sum.inr (1, [rf Λ (186 + 2 * h), Value.int (va_up (xh X) h v h)])
    rw [va_up_self]
  · rw [va_up_ne _ _ hr]
    unfold CC
    by_cases h1 : r < 185
    · rw [if_pos h1, if_pos h1]
    · rw [if_neg h1, if_neg h1]
      by_cases h2 : r < 197
      · rw [if_pos h2, if_pos h2]
        unfold hcell
        by_cases h3 : r % 2 = 1
        · rw [if_pos h3, if_pos h3]
          have h4 : (r - 185) / 2 ≠ h := by omega
          show _ = Sum.inr (1, [rf Λ (r + 1), Value.int (va_up (xh X) h v ((r - 185) / 2))])
          rw [va_up_ne _ _ h4]
        · rw [if_neg h3, if_neg h3]
      · rw [if_neg h2, if_neg h2]
theorem cs_fw (Λ : Lk) (X : XS) (Y : YS) {i : Nat} (f : FR) (v : Nat → Int64) (hi : i < 37) : va_up (CC Λ (xFi X i f) Y) (5 * i + 1) (.inl (Λ.2.2.2.1 0, 32, .inr (.inl v))) = CC Λ (xFi X i (fwS f v)) Y := cs_f Λ X Y (c := 1) f (fwS f v) hi (by omega) rfl (fun c' h1 h2 => by
  rcases (show c' = 0 ∨ c' = 1 ∨ c' = 2 ∨ c' = 3 ∨ c' = 4 by omega) with rfl | rfl | rfl | rfl | rfl <;> first | rfl | exact absurd rfl h2)
theorem cs_fk (Λ : Lk) (X : XS) (Y : YS) {i : Nat} (f : FR) (v : Nat → Int32) (hi : i < 37) : va_up (CC Λ (xFi X i f) Y) (5 * i + 2) (.inl (Λ.2.2.2.1 1, 8, .inl v)) = CC Λ (xFi X i (fkS f v)) Y := cs_f Λ X Y (c := 2) f (fkS f v) hi (by omega) rfl (fun c' h1 h2 => by
  rcases (show c' = 0 ∨ c' = 1 ∨ c' = 2 ∨ c' = 3 ∨ c' = 4 by omega) with rfl | rfl | rfl | rfl | rfl <;> first | rfl | exact absurd rfl h2)
theorem cs_fs (Λ : Lk) (X : XS) (Y : YS) {i : Nat} (f : FR) (v : Nat → Int32) (hi : i < 37) : va_up (CC Λ (xFi X i f) Y) (5 * i + 3) (.inl (Λ.2.2.2.1 1, 8, .inl v)) = CC Λ (xFi X i (fsS f v)) Y := cs_f Λ X Y (c := 3) f (fsS f v) hi (by omega) rfl (fun c' h1 h2 => by
  rcases (show c' = 0 ∨ c' = 1 ∨ c' = 2 ∨ c' = 3 ∨ c' = 4 by omega) with rfl | rfl | rfl | rfl | rfl <;> first | rfl | exact absurd rfl h2)
theorem cs_fr (Λ : Lk) (X : XS) (Y : YS) {i : Nat} (f : FR) (v : Nat → Int32) (hi : i < 37) : va_up (CC Λ (xFi X i f) Y) (5 * i + 4) (.inl (Λ.2.2.2.1 1, 8, .inl v)) = CC Λ (xFi X i (frS f v)) Y := cs_f Λ X Y (c := 4) f (frS f v) hi (by omega) rfl (fun c' h1 h2 => by
  rcases (show c' = 0 ∨ c' = 1 ∨ c' = 2 ∨ c' = 3 ∨ c' = 4 by omega) with rfl | rfl | rfl | rfl | rfl <;> first | rfl | exact absurd rfl h2)
theorem cs_fp (Λ : Lk) (X : XS) (Y : YS) {i : Nat} (f : FR) (v : Int32) (hi : i < 37) : va_up (CC Λ (xFi X i f) Y) (5 * i) (.inr (0, [rf Λ (5 * i + 1), rf Λ (5 * i + 2), rf Λ (5 * i + 3), rf Λ (5 * i + 4), .int v, .int (fd f), .int (fa f)])) = CC Λ (xFi X i (fpS f v)) Y := cs_f Λ X Y (c := 0) f (fpS f v) hi (by omega) rfl (fun c' h1 h2 => by
  rcases (show c' = 0 ∨ c' = 1 ∨ c' = 2 ∨ c' = 3 ∨ c' = 4 by omega) with rfl | rfl | rfl | rfl | rfl <;> first | rfl | exact absurd rfl h2)
theorem cs_fd (Λ : Lk) (X : XS) (Y : YS) {i : Nat} (f : FR) (v : Int32) (hi : i < 37) : va_up (CC Λ (xFi X i f) Y) (5 * i) (.inr (0, [rf Λ (5 * i + 1), rf Λ (5 * i + 2), rf Λ (5 * i + 3), rf Λ (5 * i + 4), .int (fp f), .int v, .int (fa f)])) = CC Λ (xFi X i (fdS f v)) Y := cs_f Λ X Y (c := 0) f (fdS f v) hi (by omega) rfl (fun c' h1 h2 => by
  rcases (show c' = 0 ∨ c' = 1 ∨ c' = 2 ∨ c' = 3 ∨ c' = 4 by omega) with rfl | rfl | rfl | rfl | rfl <;> first | rfl | exact absurd rfl h2)
theorem cs_fa (Λ : Lk) (X : XS) (Y : YS) {i : Nat} (f : FR) (v : Int32) (hi : i < 37) : va_up (CC Λ (xFi X i f) Y) (5 * i) (.inr (0, [rf Λ (5 * i + 1), rf Λ (5 * i + 2), rf Λ (5 * i + 3), rf Λ (5 * i + 4), .int (fp f), .int (fd f), .int v])) = CC Λ (xFi X i (faS f v)) Y := cs_f Λ X Y (c := 0) f (faS f v) hi (by omega) rfl (fun c' h1 h2 => by
  rcases (show c' = 0 ∨ c' = 1 ∨ c' = 2 ∨ c' = 3 ∨ c' = 4 by omega) with rfl | rfl | rfl | rfl | rfl <;> first | rfl | exact absurd rfl h2)
theorem cc_low (Λ : Lk) {X X' : XS} {Y Y' : YS} (h1 : xF X = xF X') (h2 : xh X = xh X') {r : Nat} (hr : r < 197) : CC Λ X Y r = CC Λ X' Y' r := by
  unfold CC
  by_cases h : r < 185
  · rw [if_pos h, if_pos h, h1]
  · rw [if_neg h, if_pos hr, if_neg h, if_pos hr]
    unfold hcell
    rw [h2]
theorem cc_big (Λ : Lk) (X : XS) (Y : YS) {r : Nat} (hr : 212 ≤ r) : CC Λ X Y r = .inl (Λ.2.2.2.1 1, 0, .inl (fun _ => 0)) := by
  unfold CC
  rw [if_neg (by omega), if_neg (by omega), if_neg (by omega), if_neg (by omega), if_neg (by omega), if_neg (by omega), if_neg (by omega), if_neg (by omega), if_neg (by omega), if_neg (by omega), if_neg (by omega), if_neg (by omega), if_neg (by omega), if_neg (by omega), if_neg (by omega), if_neg (by omega), if_neg (by omega)]
theorem r_cases {r : Nat} (h1 : ¬ r < 197) (h2 : ¬ 212 ≤ r) : r = 197 ∨ r = 198 ∨ r = 199 ∨ r = 200 ∨ r = 201 ∨ r = 202 ∨ r = 203 ∨ r = 204 ∨ r = 205 ∨ r = 206 ∨ r = 207 ∨ r = 208 ∨ r = 209 ∨ r = 210 ∨ r = 211 := by omega
theorem cs_n (Λ : Lk) (X : XS) (Y : YS) (v : Int32) : va_up (CC Λ X Y) 197 (.inr (4, [rf Λ 185, rf Λ 187, rf Λ 198, rf Λ 200, rf Λ 180, .int v])) = CC Λ (xnS X v) (Y) := by
  funext r
  by_cases h1 : r < 197
  · rw [va_up_ne _ _ (by omega)]; exact cc_low Λ (X := X) (X' := xnS X v) (Y := Y) (Y' := Y) rfl rfl h1
  by_cases h2 : 212 ≤ r
  · rw [va_up_ne _ _ (by omega), cc_big Λ _ _ h2, cc_big Λ _ _ h2]
  rcases r_cases h1 h2 with rfl | rfl | rfl | rfl | rfl | rfl | rfl | rfl | rfl | rfl | rfl | rfl | rfl | rfl | rfl <;> rfl
theorem cs_z (Λ : Lk) (X : XS) (Y : YS) (v : Int32) : va_up (CC Λ X Y) 198 (.inr (2, [rf Λ 199, .int v])) = CC Λ (xzS X v) (Y) := by
  funext r
  by_cases h1 : r < 197
  · rw [va_up_ne _ _ (by omega)]; exact cc_low Λ (X := X) (X' := xzS X v) (Y := Y) (Y' := Y) rfl rfl h1
  by_cases h2 : 212 ≤ r
  · rw [va_up_ne _ _ (by omega), cc_big Λ _ _ h2, cc_big Λ _ _ h2]
  rcases r_cases h1 h2 with rfl | rfl | rfl | rfl | rfl | rfl | rfl | rfl | rfl | rfl | rfl | rfl | rfl | rfl | rfl <;> rfl
theorem cs_q (Λ : Lk) (X : XS) (Y : YS) (v : Nat → Nat) : va_up (CC Λ X Y) 199 (.inl (Λ.2.2.2.1 4, 4, .inr (.inr (.inr (.inr (fun j => some (Λ.2.1 (189 + 2 * v j)))))))) = CC Λ (xqS X v) (Y) := by
  funext r
  by_cases h1 : r < 197
  · rw [va_up_ne _ _ (by omega)]; exact cc_low Λ (X := X) (X' := xqS X v) (Y := Y) (Y' := Y) rfl rfl h1
  by_cases h2 : 212 ≤ r
  · rw [va_up_ne _ _ (by omega), cc_big Λ _ _ h2, cc_big Λ _ _ h2]
  rcases r_cases h1 h2 with rfl | rfl | rfl | rfl | rfl | rfl | rfl | rfl | rfl | rfl | rfl | rfl | rfl | rfl | rfl <;> rfl
theorem cs_l (Λ : Lk) (X : XS) (Y : YS) (v : Int32) : va_up (CC Λ X Y) 200 (.inr (3, [rf Λ 201, rf Λ 202, rf Λ 203, .int v, .int (xm X)])) = CC Λ (xlS X v) (Y) := by
  funext r
  by_cases h1 : r < 197
  · rw [va_up_ne _ _ (by omega)]; exact cc_low Λ (X := X) (X' := xlS X v) (Y := Y) (Y' := Y) rfl rfl h1
  by_cases h2 : 212 ≤ r
  · rw [va_up_ne _ _ (by omega), cc_big Λ _ _ h2, cc_big Λ _ _ h2]
  rcases r_cases h1 h2 with rfl | rfl | rfl | rfl | rfl | rfl | rfl | rfl | rfl | rfl | rfl | rfl | rfl | rfl | rfl <;> rfl
theorem cs_m (Λ : Lk) (X : XS) (Y : YS) (v : Int32) : va_up (CC Λ X Y) 200 (.inr (3, [rf Λ 201, rf Λ 202, rf Λ 203, .int (xl X), .int v])) = CC Λ (xmS X v) (Y) := by
  funext r
  by_cases h1 : r < 197
  · rw [va_up_ne _ _ (by omega)]; exact cc_low Λ (X := X) (X' := xmS X v) (Y := Y) (Y' := Y) rfl rfl h1
  by_cases h2 : 212 ≤ r
  · rw [va_up_ne _ _ (by omega), cc_big Λ _ _ h2, cc_big Λ _ _ h2]
  rcases r_cases h1 h2 with rfl | rfl | rfl | rfl | rfl | rfl | rfl | rfl | rfl | rfl | rfl | rfl | rfl | rfl | rfl <;> rfl
theorem cs_c (Λ : Lk) (X : XS) (Y : YS) (v : Nat → Int32) : va_up (CC Λ X Y) 201 (.inl (Λ.2.2.2.1 2, 60, .inl v)) = CC Λ (xcS X v) (Y) := by
  funext r
  by_cases h1 : r < 197
  · rw [va_up_ne _ _ (by omega)]; exact cc_low Λ (X := X) (X' := xcS X v) (Y := Y) (Y' := Y) rfl rfl h1
  by_cases h2 : 212 ≤ r
  · rw [va_up_ne _ _ (by omega), cc_big Λ _ _ h2, cc_big Λ _ _ h2]
  rcases r_cases h1 h2 with rfl | rfl | rfl | rfl | rfl | rfl | rfl | rfl | rfl | rfl | rfl | rfl | rfl | rfl | rfl <;> rfl
theorem cs_b (Λ : Lk) (X : XS) (Y : YS) (v : Nat → Int32) : va_up (CC Λ X Y) 202 (.inl (Λ.2.2.2.1 1, 30, .inl v)) = CC Λ (xbS X v) (Y) := by
  funext r
  by_cases h1 : r < 197
  · rw [va_up_ne _ _ (by omega)]; exact cc_low Λ (X := X) (X' := xbS X v) (Y := Y) (Y' := Y) rfl rfl h1
  by_cases h2 : 212 ≤ r
  · rw [va_up_ne _ _ (by omega), cc_big Λ _ _ h2, cc_big Λ _ _ h2]
  rcases r_cases h1 h2 with rfl | rfl | rfl | rfl | rfl | rfl | rfl | rfl | rfl | rfl | rfl | rfl | rfl | rfl | rfl <;> rfl
theorem cs_e (Λ : Lk) (X : XS) (Y : YS) (v : Nat → Int32) : va_up (CC Λ X Y) 203 (.inl (Λ.2.2.2.1 1, 30, .inl v)) = CC Λ (xeS X v) (Y) := by
  funext r
  by_cases h1 : r < 197
  · rw [va_up_ne _ _ (by omega)]; exact cc_low Λ (X := X) (X' := xeS X v) (Y := Y) (Y' := Y) rfl rfl h1
  by_cases h2 : 212 ≤ r
  · rw [va_up_ne _ _ (by omega), cc_big Λ _ _ h2, cc_big Λ _ _ h2]
  rcases r_cases h1 h2 with rfl | rfl | rfl | rfl | rfl | rfl | rfl | rfl | rfl | rfl | rfl | rfl | rfl | rfl | rfl <;> rfl
theorem cs_yz (Λ : Lk) (X : XS) (Y : YS) (v : Int32) : va_up (CC Λ X Y) 204 (.inr (5, [rf Λ 205, rf Λ 206, .int v, rf Λ 207, .int (yi Y), rf Λ 208, rf Λ 209, .int (yy Y), .int (yo Y), rf Λ 210, rf Λ 211, .int (ym Y), .int (ya Y)])) = CC Λ (X) (yzS Y v) := by
  funext r
  by_cases h1 : r < 197
  · rw [va_up_ne _ _ (by omega)]; exact cc_low Λ (X := X) (X' := X) (Y := Y) (Y' := yzS Y v) rfl rfl h1
  by_cases h2 : 212 ≤ r
  · rw [va_up_ne _ _ (by omega), cc_big Λ _ _ h2, cc_big Λ _ _ h2]
  rcases r_cases h1 h2 with rfl | rfl | rfl | rfl | rfl | rfl | rfl | rfl | rfl | rfl | rfl | rfl | rfl | rfl | rfl <;> rfl
theorem cs_yi (Λ : Lk) (X : XS) (Y : YS) (v : Int32) : va_up (CC Λ X Y) 204 (.inr (5, [rf Λ 205, rf Λ 206, .int (yz Y), rf Λ 207, .int v, rf Λ 208, rf Λ 209, .int (yy Y), .int (yo Y), rf Λ 210, rf Λ 211, .int (ym Y), .int (ya Y)])) = CC Λ (X) (yiS Y v) := by
  funext r
  by_cases h1 : r < 197
  · rw [va_up_ne _ _ (by omega)]; exact cc_low Λ (X := X) (X' := X) (Y := Y) (Y' := yiS Y v) rfl rfl h1
  by_cases h2 : 212 ≤ r
  · rw [va_up_ne _ _ (by omega), cc_big Λ _ _ h2, cc_big Λ _ _ h2]
  rcases r_cases h1 h2 with rfl | rfl | rfl | rfl | rfl | rfl | rfl | rfl | rfl | rfl | rfl | rfl | rfl | rfl | rfl <;> rfl
theorem cs_yy (Λ : Lk) (X : XS) (Y : YS) (v : Int32) : va_up (CC Λ X Y) 204 (.inr (5, [rf Λ 205, rf Λ 206, .int (yz Y), rf Λ 207, .int (yi Y), rf Λ 208, rf Λ 209, .int v, .int (yo Y), rf Λ 210, rf Λ 211, .int (ym Y), .int (ya Y)])) = CC Λ (X) (yyS Y v) := by
  funext r
  by_cases h1 : r < 197
  · rw [va_up_ne _ _ (by omega)]; exact cc_low Λ (X := X) (X' := X) (Y := Y) (Y' := yyS Y v) rfl rfl h1
  by_cases h2 : 212 ≤ r
  · rw [va_up_ne _ _ (by omega), cc_big Λ _ _ h2, cc_big Λ _ _ h2]
  rcases r_cases h1 h2 with rfl | rfl | rfl | rfl | rfl | rfl | rfl | rfl | rfl | rfl | rfl | rfl | rfl | rfl | rfl <;> rfl
theorem cs_yo (Λ : Lk) (X : XS) (Y : YS) (v : Int32) : va_up (CC Λ X Y) 204 (.inr (5, [rf Λ 205, rf Λ 206, .int (yz Y), rf Λ 207, .int (yi Y), rf Λ 208, rf Λ 209, .int (yy Y), .int v, rf Λ 210, rf Λ 211, .int (ym Y), .int (ya Y)])) = CC Λ (X) (yoS Y v) := by
  funext r
  by_cases h1 : r < 197
  · rw [va_up_ne _ _ (by omega)]; exact cc_low Λ (X := X) (X' := X) (Y := Y) (Y' := yoS Y v) rfl rfl h1
  by_cases h2 : 212 ≤ r
  · rw [va_up_ne _ _ (by omega), cc_big Λ _ _ h2, cc_big Λ _ _ h2]
  rcases r_cases h1 h2 with rfl | rfl | rfl | rfl | rfl | rfl | rfl | rfl | rfl | rfl | rfl | rfl | rfl | rfl | rfl <;> rfl
theorem cs_ym (Λ : Lk) (X : XS) (Y : YS) (v : Int32) : va_up (CC Λ X Y) 204 (.inr (5, [rf Λ 205, rf Λ 206, .int (yz Y), rf Λ 207, .int (yi Y), rf Λ 208, rf Λ 209, .int (yy Y), .int (yo Y), rf Λ 210, rf Λ 211, .int v, .int (ya Y)])) = CC Λ (X) (ymS Y v) := by
  funext r
  by_cases h1 : r < 197
  · rw [va_up_ne _ _ (by omega)]; exact cc_low Λ (X := X) (X' := X) (Y := Y) (Y' := ymS Y v) rfl rfl h1
  by_cases h2 : 212 ≤ r
  · rw [va_up_ne _ _ (by omega), cc_big Λ _ _ h2, cc_big Λ _ _ h2]
  rcases r_cases h1 h2 with rfl | rfl | rfl | rfl | rfl | rfl | rfl | rfl | rfl | rfl | rfl | rfl | rfl | rfl | rfl <;> rfl
theorem cs_ya (Λ : Lk) (X : XS) (Y : YS) (v : Int32) : va_up (CC Λ X Y) 204 (.inr (5, [rf Λ 205, rf Λ 206, .int (yz Y), rf Λ 207, .int (yi Y), rf Λ 208, rf Λ 209, .int (yy Y), .int (yo Y), rf Λ 210, rf Λ 211, .int (ym Y), .int v])) = CC Λ (X) (yaS Y v) := by
  funext r
  by_cases h1 : r < 197
  · rw [va_up_ne _ _ (by omega)]; exact cc_low Λ (X := X) (X' := X) (Y := Y) (Y' := yaS Y v) rfl rfl h1
  by_cases h2 : 212 ≤ r
  · rw [va_up_ne _ _ (by omega), cc_big Λ _ _ h2, cc_big Λ _ _ h2]
  rcases r_cases h1 h2 with rfl | rfl | rfl | rfl | rfl | rfl | rfl | rfl | rfl | rfl | rfl | rfl | rfl | rfl | rfl <;> rfl
theorem cs_yn (Λ : Lk) (X : XS) (Y : YS) (v : Nat → Int32) : va_up (CC Λ X Y) 205 (.inl (Λ.2.2.2.1 1, 451, .inl v)) = CC Λ (X) (ynS Y v) := by
  funext r
  by_cases h1 : r < 197
  · rw [va_up_ne _ _ (by omega)]; exact cc_low Λ (X := X) (X' := X) (Y := Y) (Y' := ynS Y v) rfl rfl h1
  by_cases h2 : 212 ≤ r
  · rw [va_up_ne _ _ (by omega), cc_big Λ _ _ h2, cc_big Λ _ _ h2]
  rcases r_cases h1 h2 with rfl | rfl | rfl | rfl | rfl | rfl | rfl | rfl | rfl | rfl | rfl | rfl | rfl | rfl | rfl <;> rfl
theorem cs_yp (Λ : Lk) (X : XS) (Y : YS) (v : Nat → Int32) : va_up (CC Λ X Y) 206 (.inl (Λ.2.2.2.1 1, 1804, .inl v)) = CC Λ (X) (ypS Y v) := by
  funext r
  by_cases h1 : r < 197
  · rw [va_up_ne _ _ (by omega)]; exact cc_low Λ (X := X) (X' := X) (Y := Y) (Y' := ypS Y v) rfl rfl h1
  by_cases h2 : 212 ≤ r
  · rw [va_up_ne _ _ (by omega), cc_big Λ _ _ h2, cc_big Λ _ _ h2]
  rcases r_cases h1 h2 with rfl | rfl | rfl | rfl | rfl | rfl | rfl | rfl | rfl | rfl | rfl | rfl | rfl | rfl | rfl <;> rfl
theorem cs_yk (Λ : Lk) (X : XS) (Y : YS) (v : Nat → Int32) : va_up (CC Λ X Y) 207 (.inl (Λ.2.2.2.1 1, 451, .inl v)) = CC Λ (X) (ykS Y v) := by
  funext r
  by_cases h1 : r < 197
  · rw [va_up_ne _ _ (by omega)]; exact cc_low Λ (X := X) (X' := X) (Y := Y) (Y' := ykS Y v) rfl rfl h1
  by_cases h2 : 212 ≤ r
  · rw [va_up_ne _ _ (by omega), cc_big Λ _ _ h2, cc_big Λ _ _ h2]
  rcases r_cases h1 h2 with rfl | rfl | rfl | rfl | rfl | rfl | rfl | rfl | rfl | rfl | rfl | rfl | rfl | rfl | rfl <;> rfl
theorem cs_yt (Λ : Lk) (X : XS) (Y : YS) (v : Nat → Int32) : va_up (CC Λ X Y) 208 (.inl (Λ.2.2.2.1 1, 451, .inl v)) = CC Λ (X) (ytS Y v) := by
  funext r
  by_cases h1 : r < 197
  · rw [va_up_ne _ _ (by omega)]; exact cc_low Λ (X := X) (X' := X) (Y := Y) (Y' := ytS Y v) rfl rfl h1
  by_cases h2 : 212 ≤ r
  · rw [va_up_ne _ _ (by omega), cc_big Λ _ _ h2, cc_big Λ _ _ h2]
  rcases r_cases h1 h2 with rfl | rfl | rfl | rfl | rfl | rfl | rfl | rfl | rfl | rfl | rfl | rfl | rfl | rfl | rfl <;> rfl
theorem cs_yx (Λ : Lk) (X : XS) (Y : YS) (v : Nat → Int32) : va_up (CC Λ X Y) 209 (.inl (Λ.2.2.2.1 1, 60, .inl v)) = CC Λ (X) (yxS Y v) := by
  funext r
  by_cases h1 : r < 197
  · rw [va_up_ne _ _ (by omega)]; exact cc_low Λ (X := X) (X' := X) (Y := Y) (Y' := yxS Y v) rfl rfl h1
  by_cases h2 : 212 ≤ r
  · rw [va_up_ne _ _ (by omega), cc_big Λ _ _ h2, cc_big Λ _ _ h2]
  rcases r_cases h1 h2 with rfl | rfl | rfl | rfl | rfl | rfl | rfl | rfl | rfl | rfl | rfl | rfl | rfl | rfl | rfl <;> rfl
theorem cs_yg (Λ : Lk) (X : XS) (Y : YS) (v : Nat → Int32) : va_up (CC Λ X Y) 210 (.inl (Λ.2.2.2.1 1, 64, .inl v)) = CC Λ (X) (ygS Y v) := by
  funext r
  by_cases h1 : r < 197
  · rw [va_up_ne _ _ (by omega)]; exact cc_low Λ (X := X) (X' := X) (Y := Y) (Y' := ygS Y v) rfl rfl h1
  by_cases h2 : 212 ≤ r
  · rw [va_up_ne _ _ (by omega), cc_big Λ _ _ h2, cc_big Λ _ _ h2]
  rcases r_cases h1 h2 with rfl | rfl | rfl | rfl | rfl | rfl | rfl | rfl | rfl | rfl | rfl | rfl | rfl | rfl | rfl <;> rfl
theorem cs_yu (Λ : Lk) (X : XS) (Y : YS) (v : Nat → Int32) : va_up (CC Λ X Y) 211 (.inl (Λ.2.2.2.1 1, 60, .inl v)) = CC Λ (X) (yuS Y v) := by
  funext r
  by_cases h1 : r < 197
  · rw [va_up_ne _ _ (by omega)]; exact cc_low Λ (X := X) (X' := X) (Y := Y) (Y' := yuS Y v) rfl rfl h1
  by_cases h2 : 212 ≤ r
  · rw [va_up_ne _ _ (by omega), cc_big Λ _ _ h2, cc_big Λ _ _ h2]
  rcases r_cases h1 h2 with rfl | rfl | rfl | rfl | rfl | rfl | rfl | rfl | rfl | rfl | rfl | rfl | rfl | rfl | rfl <;> rfl
end
section
/-! ===== Int32 by its bits: bt x i ===== -/
def bt (x : Int32) (i : Nat) : Bool := x.toBitVec.getLsbD i
theorem b_ext {x y : Int32} (h : ∀ i, i < 32 → bt x i = bt y i) : x = y := Int32.toBitVec_inj.mp (BitVec.eq_of_getLsbD_eq (fun i hi => h i hi))
theorem b_or (x y : Int32) (i : Nat) : bt (x ||| y) i = (bt x i || bt y i) := by unfold bt; rw [Int32.toBitVec_or, BitVec.getLsbD_or]
theorem b_and (x y : Int32) (i : Nat) : bt (x &&& y) i = (bt x i && bt y i) := by unfold bt; rw [Int32.toBitVec_and, BitVec.getLsbD_and]
theorem b_xor (x y : Int32) (i : Nat) : bt (x ^^^ y) i = (bt x i ^^ bt y i) := by unfold bt; rw [Int32.toBitVec_xor, BitVec.getLsbD_xor]
theorem b_big {x : Int32} {i : Nat} (h : 32 ≤ i) : bt x i = false := BitVec.getLsbD_of_ge _ _ h
theorem b_255 (i : Nat) : bt 255 i = decide (i < 8) := by
  rcases Nat.lt_or_ge i 32 with h | h
  · exact (by decide +kernel : ∀ i, i < 32 → bt 255 i = decide (i < 8)) i h
  · rw [b_big h, decide_eq_false (by omega)]
theorem b_65535 (i : Nat) : bt 65535 i = decide (i < 16) := by
  rcases Nat.lt_or_ge i 32 with h | h
  · exact (by decide +kernel : ∀ i, i < 32 → bt 65535 i = decide (i < 16)) i h
  · rw [b_big h, decide_eq_false (by omega)]
theorem b_m1 : ∀ i, i < 32 → bt (-1) i = true := by decide +kernel
theorem b_0 (i : Nat) : bt 0 i = false := BitVec.getLsbD_zero
theorem s_l : ∀ n, n < 32 → ((nI n &&& 31).toBitVec.smod 32).toNat = n := by decide +kernel
theorem s_u : ∀ n, n < 32 → (((nI n).toUInt32 &&& Int32.toUInt32 31).toBitVec % 32).toNat = n := by decide +kernel
theorem b_shl (n : Nat) (hn : n < 32) (x : Int32) {i : Nat} (hi : i < 32) : bt (x <<< (nI n &&& 31)) i = (decide (n ≤ i) && bt x (i - n)) := by
  unfold bt
  rw [Int32.toBitVec_shiftLeft]
  show (x.toBitVec <<< ((nI n &&& 31).toBitVec.smod 32).toNat).getLsbD i = _
  rw [s_l n hn, BitVec.getLsbD_shiftLeft]
  rcases Nat.lt_or_ge i n with h | h
  · simp [h, Nat.not_le.mpr h]
  · simp [hi, h, Nat.not_lt.mpr h]
theorem b_ushr (n : Nat) (hn : n < 32) (x : Int32) (i : Nat) : bt ((x.toUInt32 >>> ((nI n).toUInt32 &&& Int32.toUInt32 31)).toInt32) i = bt x (n + i) := by
  show (x.toUInt32 >>> ((nI n).toUInt32 &&& Int32.toUInt32 31)).toBitVec.getLsbD i = x.toUInt32.toBitVec.getLsbD (n + i)
  rw [UInt32.toBitVec_shiftRight]
  show (x.toUInt32.toBitVec >>> (((nI n).toUInt32 &&& Int32.toUInt32 31).toBitVec % 32).toNat).getLsbD i = _
  rw [s_u n hn, BitVec.getLsbD_ushiftRight]
theorem b_sshr (n : Nat) (hn : n < 32) (x : Int32) {i : Nat} (hi : i < 32) : bt (x >>> (nI n &&& 31)) i = if n + i < 32 then bt x (n + i) else bt x 31 := by
  unfold bt
  rw [Int32.toBitVec_shiftRight]
  show (x.toBitVec.sshiftRight ((nI n &&& 31).toBitVec.smod 32).toNat).getLsbD i = _
  rw [s_l n hn, BitVec.getLsbD_sshiftRight, BitVec.msb_eq_getLsbD_last]
  simp [hi]
theorem b_shl8 (x : Int32) {i : Nat} (hi : i < 32) : bt (x <<< ((8 : Int32) &&& 31)) i = (decide (8 ≤ i) && bt x (i - 8)) := b_shl 8 (by omega) x hi
theorem b_shl16 (x : Int32) {i : Nat} (hi : i < 32) : bt (x <<< ((16 : Int32) &&& 31)) i = (decide (16 ≤ i) && bt x (i - 16)) := b_shl 16 (by omega) x hi
theorem b_shl24 (x : Int32) {i : Nat} (hi : i < 32) : bt (x <<< ((24 : Int32) &&& 31)) i = (decide (24 ≤ i) && bt x (i - 24)) := b_shl 24 (by omega) x hi
theorem b_sshr8 (x : Int32) {i : Nat} (hi : i < 32) : bt (x >>> ((8 : Int32) &&& 31)) i = if 8 + i < 32 then bt x (8 + i) else bt x 31 := b_sshr 8 (by omega) x hi
theorem ts_bit {w : Int64} {s : UInt64} {j : Nat} (hj : j < 64) (hs : s.toNat = j) : ((w.toUInt64 >>> s).toInt64 &&& 1) = 0 ↔ w.toBitVec.getLsbD j = false := by
  have e : (w.toUInt64 >>> s).toInt64.toBitVec = w.toBitVec >>> j := by
    apply BitVec.eq_of_toNat_eq
    show (w.toUInt64 >>> s).toNat = _
    rw [UInt64.toNat_shiftRight, hs, Nat.mod_eq_of_lt hj, BitVec.toNat_ushiftRight]
    rfl
  rw [← Int64.toBitVec_inj, Int64.toBitVec_and, e]
  show w.toBitVec >>> j &&& 1#64 = 0#64 ↔ _
  constructor
  · intro h
    have t := congrArg (fun x => x.getLsbD 0) h
    simpa using t
  · intro h
    apply BitVec.eq_of_getLsbD_eq
    intro i hi
    cases i with
    | zero => simp [h]
    | succ i => simp
theorem wb_tb (n : Nat) : (lN n).toBitVec = BitVec.ofNat 64 n := rfl
theorem wb_inj {a b : Int64} (h : a.toBitVec = b.toBitVec) : a = b := Int64.toBitVec_inj.mp h
theorem wb_c : ∀ k, k < 64 → ((nI k).toInt64 &&& 63) = lN k := by decide +kernel
theorem wb_cu : ∀ k, k < 64 → ((nI k).toInt64.toUInt64 &&& Int64.toUInt64 63) = UInt64.ofNat k := by decide +kernel
theorem wb_sm : ∀ k, k < 64 → (BitVec.ofNat 64 k).smod 64 = BitVec.ofNat 64 k := by decide +kernel
/-! ===== mine: one bit of an int, of a long ===== -/
theorem b_1 (i : Nat) : bt 1 i = decide (i = 0) := by
  rcases Nat.lt_or_ge i 32 with h | h
  · exact (by decide +kernel : ∀ i, i < 32 → bt 1 i = decide (i = 0)) i h
  · rw [b_big h, decide_eq_false (by omega)]
theorem bt_bI (b : Bool) (i : Nat) : bt (bI b) i = (b && decide (i = 0)) := by
  cases b
  · exact b_0 i
  · rw [Bool.true_and]; exact b_1 i
theorem and1 (y : Int32) : y &&& 1 = bI (bt y 0) := by
  apply b_ext
  intro i hi
  rw [b_and, b_1, bt_bI]
  by_cases h : i = 0
  · subst h; rfl
  · simp [h]
theorem bit32 (x : Int32) {k : Nat} (hk : k < 32) : (x >>> (nI k &&& 31)) &&& 1 = bI (bt x k) := by
  rw [and1, b_sshr k hk x (by decide)]
  simp [hk]
/-- the int whose only bit is k -/
theorem bt_one (k : Nat) (hk : k < 32) {i : Nat} (hi : i < 32) : bt ((1 : Int32) <<< (nI k &&& 31)) i = decide (i = k) := by
  rw [b_shl k hk 1 hi, b_1]
  by_cases h : i = k
  · subst h; simp
  · by_cases h2 : k ≤ i
    · simp [h]; omega
    · simp [h2, h]
def bl (x : Int64) (i : Nat) : Bool := x.toBitVec.getLsbD i
theorem l_ext {x y : Int64} (h : ∀ i, i < 64 → bl x i = bl y i) : x = y := Int64.toBitVec_inj.mp (BitVec.eq_of_getLsbD_eq (fun i hi => h i hi))
theorem l_or (x y : Int64) (i : Nat) : bl (x ||| y) i = (bl x i || bl y i) := by unfold bl; rw [Int64.toBitVec_or, BitVec.getLsbD_or]
theorem l_and (x y : Int64) (i : Nat) : bl (x &&& y) i = (bl x i && bl y i) := by unfold bl; rw [Int64.toBitVec_and, BitVec.getLsbD_and]
theorem l_xor (x y : Int64) (i : Nat) : bl (x ^^^ y) i = (bl x i ^^ bl y i) := by unfold bl; rw [Int64.toBitVec_xor, BitVec.getLsbD_xor]
theorem l_big {x : Int64} {i : Nat} (h : 64 ≤ i) : bl x i = false := BitVec.getLsbD_of_ge _ _ h
theorem l_0 (i : Nat) : bl 0 i = false := BitVec.getLsbD_zero
theorem l_m1 : ∀ i, i < 64 → bl (-1) i = true := by decide +kernel
theorem bit64 (w : Int64) {k : Nat} (hk : k < 64) : (lg_cmp ((w.toUInt64 >>> ((nI k).toInt64.toUInt64 &&& Int64.toUInt64 63)).toInt64 &&& 1) 0) = bI (bl w k) := by
  rw [wb_cu k hk]
  have hs : (UInt64.ofNat k).toNat = k := by
    show (BitVec.ofNat 64 k).toNat = k
    rw [BitVec.toNat_ofNat, Nat.mod_eq_of_lt (by omega)]
  have h := ts_bit (w := w) hk hs
  have h2 : ∀ z : Int64, z &&& 1 = 0 ∨ z &&& 1 = 1 := by
    intro z
    by_cases hz : bl z 0 = true
    · right
      apply l_ext
      intro i hi
      rw [l_and]
      by_cases h0 : i = 0
      · subst h0; rw [hz]; rfl
      · have : bl 1 i = false := (by decide +kernel : ∀ i, i < 64 → i ≠ 0 → bl 1 i = false) i hi h0
        rw [this, Bool.and_false]
    · left
      apply l_ext
      intro i hi
      rw [l_and, l_0]
      by_cases h0 : i = 0
      · subst h0; simp [hz]
      · have : bl 1 i = false := (by decide +kernel : ∀ i, i < 64 → i ≠ 0 → bl 1 i = false) i hi h0
        rw [this, Bool.and_false]
  generalize (w.toUInt64 >>> UInt64.ofNat k).toInt64 = z at h ⊢
  show lg_cmp (z &&& 1) 0 = bI (w.toBitVec.getLsbD k)
  rcases h2 z with e | e
  · rw [h.mp e, e]; decide
  · have : w.toBitVec.getLsbD k = true := by
      cases hb : w.toBitVec.getLsbD k with
      | true => rfl
      | false => exact absurd (h.mpr hb) (by rw [e]; decide)
    rw [this, e]; decide
theorem bl_one (k : Nat) (hk : k < 64) {i : Nat} (hi : i < 64) : bl ((1 : Int64) <<< ((nI k).toInt64 &&& 63)) i = decide (i = k) := by
  unfold bl
  rw [wb_c k hk, Int64.toBitVec_shiftLeft, wb_tb, wb_sm k hk, BitVec.shiftLeft_eq', BitVec.getLsbD_shiftLeft, BitVec.toNat_ofNat, Nat.mod_eq_of_lt (by omega)]
  have h1 : (1 : Int64).toBitVec.getLsbD (i - k) = decide (i - k = 0) := by
    have := (by decide +kernel : ∀ j, j < 64 → (1 : Int64).toBitVec.getLsbD j = decide (j = 0)) (i - k) (by omega)
    exact this
  rw [h1]
  by_cases h : i = k
  · subst h; simp [hi]
  · by_cases h2 : i < k
    · simp [h2, h]
    · simp [hi, h2, h]; omega
end
section
/-! What the methods answer, in plain functions: over a fleet as it lies (FR), and over the reference's row 'now' -/
def cnt (b : Nat → Bool) (a : Nat) : Nat → Nat
  | 0 => 0
  | n + 1 => cnt b a n + if b (a + n) then 1 else 0
theorem cnt_le (b : Nat → Bool) (a : Nat) : ∀ n, cnt b a n ≤ n
  | 0 => Nat.le_refl _
  | n + 1 => by have := cnt_le b a n; simp only [cnt]; split <;> omega
theorem cnt_T {b : Nat → Bool} {a n : Nat} (h : b (a + n) = true) : cnt b a (n + 1) = cnt b a n + 1 := by simp [cnt, h]
theorem cnt_F {b : Nat → Bool} {a n : Nat} (h : b (a + n) = false) : cnt b a (n + 1) = cnt b a n := by simp [cnt, h]
def sumI (f : Nat → Int32) : Nat → Int32
  | 0 => 0
  | n + 1 => sumI f n + f n
-- the reference
def ofN (now : Nat → Int32) (s w : Nat) : Int32 := now (1 + 75 * s + w)
def layN (now : Nat → Int32) (s w : Nat) (v : Int32) : Nat → Int32 := upd now (1 + 75 * s + w) v
def mb (now : Nat → Int32) (s n : Nat) : Bool := bt (ofN now s (11 + n / 32)) (n % 32)
def kindN (now : Nat → Int32) (s bay : Nat) : Int32 := ofN now s (3 + bay) - 1
def manyN (now : Nat → Int32) (s bay : Nat) : Nat := cnt (mb now s) (256 * bay) 256
def runB (b : Nat → Bool) (n : Nat) : Bool := b n && (decide (n % 256 = 0) || !b (n - 1))
def runsN (now : Nat → Int32) (s bay : Nat) : Nat := cnt (runB (mb now s)) (256 * bay) 256
def holdsI (kind many runs : Int32) : Bool := if kind = 0 then decide (many ≤ 24) else (decide (kind = 1) || decide (runs ≤ 8))
def unitsI (kind many runs : Int32) : Int32 := if kind = 0 then 2 * many else if kind = 1 then 32 else 3 * runs
def bestI (many runs : Int32) : Int32 :=
  let b : Int32 := if holdsI 2 many runs = true ∧ unitsI 2 many runs < unitsI 1 many runs then 2 else 1
  if holdsI 0 many runs = true ∧ unitsI 0 many runs ≤ unitsI b many runs then 0 else b
def bestN (now : Nat → Int32) (s bay : Nat) : Int32 := bestI (nI (manyN now s bay)) (nI (runsN now s bay))
def unitsN (now : Nat → Int32) (s bay : Nat) : Int32 := unitsI (kindN now s bay) (nI (manyN now s bay)) (nI (runsN now s bay))
def tollN (now : Nat → Int32) (s bay : Nat) : Int32 := if bestN now s bay = kindN now s bay then 0 else unitsI (bestN now s bay) (nI (manyN now s bay)) (nI (runsN now s bay))
theorem isIn_bit {now : Nat → Int32} {s n : Nat} (hn : n < 2048) : (ofN now s (11 + (n / 32))) >>> (nI (n % 32) &&& 31) &&& 1 = bI (mb now s n) := bit32 _ (Nat.mod_lt _ (by decide))
def becomesN (now : Nat → Int32) (s b : Nat) : Nat → Int32 :=
  let n1 := layN now s (3 + b) (bestN now s b + 1)
  let n2 := layN n1 s 0 (ofN n1 s 0 - tollN now s b)
  layN n2 s 2 (ofN n2 s 2 + tollN now s b)
def bitI (n : Nat) : Int32 := (1 : Int32) <<< (nI (n % 32) &&& 31)
def putN (now : Nat → Int32) (s n : Nat) (is : Bool) : Nat → Int32 :=
  layN now s (11 + n / 32) (if is = true then ofN now s (11 + n / 32) ||| bitI n else ofN now s (11 + n / 32) &&& (bitI n ^^^ (-1)))
/-- a number comes or goes: the row, and whether its boat can hold what it has then -/
def goN1 (now : Nat → Int32) (s n : Nat) (comes : Bool) : Nat → Int32 :=
  let n1 := putN now s n comes
  if kindN n1 s (n / 256) < 0 then layN n1 s (3 + n / 256) 1 else n1
def goN2 (n2 : Nat → Int32) (s b : Nat) : Nat → Int32 :=
  if ofN n2 s 1 = 0 ∧ ¬ bestN n2 s b = kindN n2 s b ∧ tollN n2 s b ≤ ofN n2 s 0 then becomesN n2 s b else n2
def goesN (now : Nat → Int32) (s n : Nat) (comes : Bool) : (Nat → Int32) × Bool :=
  if manyN (goN1 now s n comes) s (n / 256) = 0 then (layN (goN1 now s n comes) s (3 + n / 256) 0, true)
  else (goN2 (goN1 now s n comes) s (n / 256), holdsI (kindN (goN2 (goN1 now s n comes) s (n / 256)) s (n / 256)) (nI (manyN (goN2 (goN1 now s n comes) s (n / 256)) s (n / 256))) (nI (runsN (goN2 (goN1 now s n comes) s (n / 256)) s (n / 256))))
/-- k numbers from n on come or go, many have already -/
def gaN (s : Nat) (comes : Bool) : Nat → Nat → Nat → (Nat → Int32) → (Nat → Int32) × Int32
  | 0, _, many, now => (now, nI many)
  | k + 1, n, many, now => if mb now s n = comes then gaN s comes k (n + 1) many now else
    if (goesN now s n comes).2 = true then gaN s comes k (n + 1) (many + 1) (goesN now s n comes).1 else ((goesN now s n comes).1, -1)
def cpyN (f g : Nat → Int32) (a c : Nat) : Nat → Int32 := fun j => if c ≤ j ∧ j < c + 451 then f (a + (j - c)) else g j
def isSB (now : Nat → Int32) (s : Int32) : Bool := decide ((0 : Int32) ≤ s ∧ s ≤ now 0 - 1)
def inB (v lo hi : Int32) : Bool := decide (lo ≤ v ∧ v ≤ hi)
def boatsN (now : Nat → Int32) (s : Nat) : Nat → Int32
  | 0 => 0
  | b + 1 => boatsN now s b + (if kindN now s b < 0 then 0 else 1)
/-- the best of the first bays to dock: which, and what it saves -/
def ndN (now : Nat → Int32) (looked : Int32) (s : Nat) : Nat → Int32 × Int32
  | 0 => (-5, 0)
  | b + 1 => if kindN now s b < 0 ∨ bt looked b = true ∨ tollN now s b ≤ 0 then ndN now looked s b
    else if (ndN now looked s b).1 = -5 ∨ (ndN now looked s b).2 < unitsN now s b - tollN now s b then (nI b, unitsN now s b - tollN now s b) else ndN now looked s b
def dkN1 (now : Nat → Int32) (s b : Nat) : Nat → Int32 := if tollN now s b ≤ ofN now s 0 then becomesN now s b else now
def dkN (s : Nat) : Nat → (Nat → Int32) → Int32 → (Nat → Int32) × Int32
  | 0, now, looked => (now, looked)
  | k + 1, now, looked => if (ndN now looked s 8).1 = -5 then (now, looked) else
    dkN s k (dkN1 now s (ndN now looked s 8).1.toNatClampNeg) (looked ||| (1 : Int32) <<< ((ndN now looked s 8).1 &&& 31))
theorem inB_lt {v lo hi : Int32} (h : v < lo) : inB v lo hi = false := decide_eq_false (fun g => absurd g.1 (Int32.not_le.mpr h))
theorem inB_gt {v lo hi : Int32} (h : hi < v) : inB v lo hi = false := decide_eq_false (fun g => absurd g.2 (Int32.not_le.mpr h))
theorem inB_in {v lo hi : Int32} (h : ¬ v < lo) (h2 : ¬ hi < v) : inB v lo hi = true := decide_eq_true ⟨Int32.not_lt.mp h, Int32.not_lt.mp h2⟩
theorem runB_F1 {b : Nat → Bool} {n : Nat} (h : b n = false) : runB b n = false := by simp [runB, h]
theorem runB_T2 {b : Nat → Bool} {n : Nat} (h : b n = true) (h2 : n % 256 = 0) : runB b n = true := by simp [runB, h, h2]
theorem runB_T3 {b : Nat → Bool} {n : Nat} (h : b n = true) (h3 : b (n - 1) = false) : runB b n = true := by simp [runB, h, h3]
theorem runB_F3 {b : Nat → Bool} {n : Nat} (h : b n = true) (h2 : n % 256 ≠ 0) (h3 : b (n - 1) = true) : runB b n = false := by simp [runB, h2, h3]
end
section
theorem in_X5_of_X5 : ∀ w ∈ wsX50, w ∈ wsX5_of := by decide +kernel
theorem fl_X5_of_7 : Cond.fieldLink RX5 7 "BoatSetsModel" "now" "[I" ∈ wsX5_of := by decide +kernel
theorem hd_X5_of : yX5_of.cls = RX5 ∧ yX5_of.cls ≠ "java/lang/invoke/MethodHandle" ∧ yX5_of.cls ≠ "java/lang/invoke/VarHandle" ∧ (parseMethodDescriptor yX5_of.desc).map (fun d => d.parameters.length) = some 2 := by decide +kernel
set_option maxHeartbeats 4000000 in
set_option maxRecDepth 100000 in
theorem c_X5_of (Λ : Lk) (X : XS) (Y : YS) {s : Nat} {w : Nat} (hs : s < 6) (hw : w < 75) : Con Λ yX5_of wsX5_of { frames := 0, cells := 0, slots := 0, locals := 0 } [rf Λ 204, .int (nI s), .int (nI w)] (CC Λ X Y) (some (.int (ofN (yn Y) s w))) (CC Λ X Y) := by
  refine con_start (cc := cX5_of) (maxL := 3) (ret := (some .int)) (by decide) rfl (Nat.le_of_ble_eq_true rfl) ?_
  intro κ hC hR
  have hC : Ok Λ { frames := 0, cells := 0, slots := 0, locals := 0 } cX5_of wsX5_of RX5 3 κ := hC
  refine v_args (lv' := [(0, rf Λ 204), (1, .int (nI s)), (2, .int (nI w))]) rfl ?_
  refine v_aload_n hC dX5_of_0 0 rfl ?_
  refine v_get (T := TX5) (N := 13) (v := rf Λ 205) hC 204 (nR_of (by decide)) (cc_204 Λ X Y) in_X5_of_X5 rfl 0 (by decide) fl_X5_of_7 rfl dX5_of_1 ?_
  refine v_iconst (v := 1) hC dX5_of_4 (by decide) ?_
  refine v_bipush (v := 75) hC dX5_of_5 (by decide) ?_
  refine v_iload_n hC dX5_of_7 1 rfl ?_
  refine v_imul (x := 75) (y := nI s) hC dX5_of_8 ?_
  refine v_topi (y := nI (75 * s)) (pk_mul 75 s) ?_
  refine v_iadd (x := 1) (y := nI (75 * s)) hC dX5_of_9 ?_
  refine v_topi (y := nI (1 + (75 * s))) (nI_add 1 (75 * s)) ?_
  refine v_iload_n hC dX5_of_10 2 rfl ?_
  refine v_iadd (x := nI (1 + (75 * s))) (y := nI w) hC dX5_of_11 ?_
  refine v_topi (y := nI (1 + (75 * s) + w)) (nI_add (1 + (75 * s)) w) ?_
  refine v_iald (n := 451) (f := (yn Y)) hC 205 (nR_of (by decide)) (cc_205 Λ X Y) (1 + (75 * s) + w) rfl (by omega) (by decide) dX5_of_12 ?_
  exact v_iret hC hR rfl rfl dX5_of_13

theorem in_X5_lays_X5 : ∀ w ∈ wsX50, w ∈ wsX5_lays := by decide +kernel
theorem fl_X5_lays_7 : Cond.fieldLink RX5 7 "BoatSetsModel" "now" "[I" ∈ wsX5_lays := by decide +kernel
theorem hd_X5_lays : yX5_lays.cls = RX5 ∧ yX5_lays.cls ≠ "java/lang/invoke/MethodHandle" ∧ yX5_lays.cls ≠ "java/lang/invoke/VarHandle" ∧ (parseMethodDescriptor yX5_lays.desc).map (fun d => d.parameters.length) = some 3 := by decide +kernel
set_option maxHeartbeats 4000000 in
set_option maxRecDepth 100000 in
theorem c_X5_lays (Λ : Lk) (X : XS) (Y : YS) {s : Nat} {w : Nat} {v : Int32} (hs : s < 6) (hw : w < 75) : Con Λ yX5_lays wsX5_lays { frames := 0, cells := 0, slots := 0, locals := 0 } [rf Λ 204, .int (nI s), .int (nI w), .int v] (CC Λ X Y) none (CC Λ X (ynS Y (layN (yn Y) s w v))) := by
  refine con_start (cc := cX5_lays) (maxL := 4) (ret := none) (by decide) rfl (Nat.le_of_ble_eq_true rfl) ?_
  intro κ hC hR
  have hC : Ok Λ { frames := 0, cells := 0, slots := 0, locals := 0 } cX5_lays wsX5_lays RX5 4 κ := hC
  refine v_args (lv' := [(0, rf Λ 204), (1, .int (nI s)), (2, .int (nI w)), (3, .int v)]) rfl ?_
  refine v_aload_n hC dX5_lays_0 0 rfl ?_
  refine v_get (T := TX5) (N := 13) (v := rf Λ 205) hC 204 (nR_of (by decide)) (cc_204 Λ X Y) in_X5_lays_X5 rfl 0 (by decide) fl_X5_lays_7 rfl dX5_lays_1 ?_
  refine v_iconst (v := 1) hC dX5_lays_4 (by decide) ?_
  refine v_bipush (v := 75) hC dX5_lays_5 (by decide) ?_
  refine v_iload_n hC dX5_lays_7 1 rfl ?_
  refine v_imul (x := 75) (y := nI s) hC dX5_lays_8 ?_
  refine v_topi (y := nI (75 * s)) (pk_mul 75 s) ?_
  refine v_iadd (x := 1) (y := nI (75 * s)) hC dX5_lays_9 ?_
  refine v_topi (y := nI (1 + (75 * s))) (nI_add 1 (75 * s)) ?_
  refine v_iload_n hC dX5_lays_10 2 rfl ?_
  refine v_iadd (x := nI (1 + (75 * s))) (y := nI w) hC dX5_lays_11 ?_
  refine v_topi (y := nI (1 + (75 * s) + w)) (nI_add (1 + (75 * s)) w) ?_
  refine v_iload_n hC dX5_lays_12 3 rfl ?_
  refine v_iast (n := 451) (f := (yn Y)) hC 205 (nR_of (by decide)) (cc_205 Λ X Y) (1 + (75 * s) + w) rfl (by omega) (by decide) dX5_lays_13 ?_
  refine v_mem (cs_yn Λ X Y (upd (yn Y) (1 + (75 * s) + w) v)) ?_
  exact v_vret hC hR rfl rfl dX5_lays_14

theorem hd_X5_isIn : yX5_isIn.cls = RX5 ∧ yX5_isIn.cls ≠ "java/lang/invoke/MethodHandle" ∧ yX5_isIn.cls ≠ "java/lang/invoke/VarHandle" ∧ (parseMethodDescriptor yX5_isIn.desc).map (fun d => d.parameters.length) = some 2 := by decide +kernel
set_option maxHeartbeats 4000000 in
set_option maxRecDepth 100000 in
theorem c_X5_isIn (Λ : Lk) (X : XS) (Y : YS) {s : Nat} {n : Nat} (hs : s < 6) (hn : n < 2048) : Con Λ yX5_isIn wsX5_isIn { frames := 1, cells := 0, slots := 0, locals := 22 } [rf Λ 204, .int (nI s), .int (nI n)] (CC Λ X Y) (some (.int (bI (mb (yn Y) s n)))) (CC Λ X Y) := by
  refine con_start (cc := cX5_isIn) (maxL := 3) (ret := (some .boolean)) (by decide) rfl (Nat.le_of_ble_eq_true rfl) ?_
  intro κ hC hR
  have hC : Ok Λ { frames := 1, cells := 0, slots := 0, locals := 22 } cX5_isIn wsX5_isIn RX5 3 κ := hC
  refine v_args (lv' := [(0, rf Λ 204), (1, .int (nI s)), (2, .int (nI n))]) rfl ?_
  refine v_aload_n hC dX5_isIn_0 0 rfl ?_
  refine v_iload_n hC dX5_isIn_1 1 rfl ?_
  refine v_bipush (v := 11) hC dX5_isIn_2 (by decide) ?_
  refine v_iload_n hC dX5_isIn_4 2 rfl ?_
  refine v_bipush (v := 32) hC dX5_isIn_5 (by decide) ?_
  refine v_idiv (x := nI n) (y := 32) hC dX5_isIn_7 (by decide) ?_
  refine v_topi (y := nI (n / 32)) (pk_div (a := n) (d := 32) (by omega) (by decide) (by decide)) ?_
  refine v_iadd (x := 11) (y := nI (n / 32)) hC dX5_isIn_8 ?_
  refine v_topi (y := nI (11 + (n / 32))) (nI_add 11 (n / 32)) ?_
  refine v_callVr (As := [.int (nI s), .int (nI (11 + (n / 32)))]) (rest := []) hC 2 204 (c_X5_of Λ X Y (s := s) (w := 11 + (n / 32)) (by omega) (by omega)) (nR_of (by decide)) (cc_204 Λ X Y) rfl gX5_isIn_X5_of rfl rfl rfl hd_X5_of ⟨by decide, by decide⟩ rfl rfl (Nat.le_of_ble_eq_true rfl) dX5_isIn_9 ?_
  refine v_iload_n hC dX5_isIn_12 2 rfl ?_
  refine v_bipush (v := 32) hC dX5_isIn_13 (by decide) ?_
  refine v_irem (x := nI n) (y := 32) hC dX5_isIn_15 (by decide) ?_
  refine v_topi (y := nI (n % 32)) (pk_rem (a := n) (d := 32) (by omega) (by decide) (by decide)) ?_
  refine v_ishr (x := ofN (yn Y) s (11 + (n / 32))) (y := nI (n % 32)) hC dX5_isIn_16 ?_
  refine v_iconst (v := 1) hC dX5_isIn_17 (by decide) ?_
  refine v_iand (x := (ofN (yn Y) s (11 + (n / 32))) >>> ((nI (n % 32)) &&& 31)) (y := 1) hC dX5_isIn_18 ?_
  refine v_topi (y := bI (mb (yn Y) s n)) (isIn_bit hn) ?_
  refine v_iconst (v := 1) hC dX5_isIn_19 (by decide) ?_
  refine v_cne (a := mb (yn Y) s n) (b := true) (tgt := 27) hC dX5_isIn_20 (by decide) rfl rfl (fun c20 => ?_) (fun c20 => ?_)
  · skip
    refine v_iconst (v := 0) hC dX5_isIn_27 (by decide) ?_
    exact v_zret hC hR (congrArg (fun z : Int32 => some (Value.int z)) (by simp [bI, *])) rfl rfl dX5_isIn_28
  · skip
    refine v_iconst (v := 1) hC dX5_isIn_23 (by decide) ?_
    refine v_goto (tgt := 28) hC dX5_isIn_24 (by decide) ?_
    exact v_zret hC hR (congrArg (fun z : Int32 => some (Value.int z)) (by simp [bI, *])) rfl rfl dX5_isIn_28

theorem hd_X5_in : yX5_in.cls ≠ "java/lang/invoke/MethodHandle" ∧ yX5_in.cls ≠ "java/lang/invoke/VarHandle" ∧ (parseMethodDescriptor yX5_in.desc).map (fun d => d.parameters.length) = some 3 := by decide +kernel
set_option maxHeartbeats 4000000 in
set_option maxRecDepth 100000 in
theorem c_X5_in (Λ : Lk) (X : XS) (Y : YS) {v : Int32} {lo : Int32} {hi : Int32} : Con Λ yX5_in wsX5_in { frames := 0, cells := 0, slots := 0, locals := 0 } [.int v, .int lo, .int hi] (CC Λ X Y) (some (.int (bI (inB v lo hi)))) (CC Λ X Y) := by
  refine con_start (cc := cX5_in) (maxL := 3) (ret := (some .boolean)) (by decide) rfl (Nat.le_of_ble_eq_true rfl) ?_
  intro κ hC hR
  have hC : Ok Λ { frames := 0, cells := 0, slots := 0, locals := 0 } cX5_in wsX5_in RX5 3 κ := hC
  refine v_args (lv' := [(0, .int v), (1, .int lo), (2, .int hi)]) rfl ?_
  refine v_iload_n hC dX5_in_0 0 rfl ?_
  refine v_iload_n hC dX5_in_1 1 rfl ?_
  refine v_icmp_lt (x := v) (y := lo) (tgt := 14) hC dX5_in_2 (by decide) (fun c2 => ?_) (fun c2 => ?_)
  · have c2' := Int32.not_le.mpr c2
    refine v_iconst (v := 0) hC dX5_in_14 (by decide) ?_
    exact v_zret hC hR (congrArg (fun z : Int32 => some (Value.int z)) (by first | (rw [inB_lt c2]; rfl) | (rw [inB_gt c7]; rfl) | (rw [inB_in c2 c7]; rfl))) rfl rfl dX5_in_15
  · have c2' := Int32.not_lt.mp c2
    refine v_iload_n hC dX5_in_5 0 rfl ?_
    refine v_iload_n hC dX5_in_6 2 rfl ?_
    refine v_icmp_gt (x := v) (y := hi) (tgt := 14) hC dX5_in_7 (by decide) (fun c7 => ?_) (fun c7 => ?_)
    · have c7' := Int32.not_le.mpr c7
      refine v_iconst (v := 0) hC dX5_in_14 (by decide) ?_
      exact v_zret hC hR (congrArg (fun z : Int32 => some (Value.int z)) (by first | (rw [inB_lt c2]; rfl) | (rw [inB_gt c7]; rfl) | (rw [inB_in c2 c7]; rfl))) rfl rfl dX5_in_15
    · have c7' := Int32.not_lt.mp c7
      refine v_iconst (v := 1) hC dX5_in_10 (by decide) ?_
      refine v_goto (tgt := 15) hC dX5_in_11 (by decide) ?_
      exact v_zret hC hR (congrArg (fun z : Int32 => some (Value.int z)) (by first | (rw [inB_lt c2]; rfl) | (rw [inB_gt c7]; rfl) | (rw [inB_in c2 c7]; rfl))) rfl rfl dX5_in_15

theorem hd_X5_isNumber : yX5_isNumber.cls ≠ "java/lang/invoke/MethodHandle" ∧ yX5_isNumber.cls ≠ "java/lang/invoke/VarHandle" ∧ (parseMethodDescriptor yX5_isNumber.desc).map (fun d => d.parameters.length) = some 1 := by decide +kernel
set_option maxHeartbeats 4000000 in
set_option maxRecDepth 100000 in
theorem c_X5_isNumber (Λ : Lk) (X : XS) (Y : YS) {v : Int32} : Con Λ yX5_isNumber wsX5_isNumber { frames := 1, cells := 0, slots := 0, locals := 22 } [.int v] (CC Λ X Y) (some (.int (bI (inB v 0 2047)))) (CC Λ X Y) := by
  refine con_start (cc := cX5_isNumber) (maxL := 1) (ret := (some .boolean)) (by decide) rfl (Nat.le_of_ble_eq_true rfl) ?_
  intro κ hC hR
  have hC : Ok Λ { frames := 1, cells := 0, slots := 0, locals := 22 } cX5_isNumber wsX5_isNumber RX5 1 κ := hC
  refine v_args (lv' := [(0, .int v)]) rfl ?_
  refine v_iload_n hC dX5_isNumber_0 0 rfl ?_
  refine v_iconst (v := 0) hC dX5_isNumber_1 (by decide) ?_
  refine v_sipush (v := 2047) hC dX5_isNumber_2 (by decide) ?_
  refine v_callSr (As := [.int v, .int 0, .int 2047]) (rest := []) hC 3 (c_X5_in Λ X Y (v := v) (lo := 0) (hi := 2047)) gX5_isNumber_X5_in rfl rfl rfl hd_X5_in ⟨by decide, by decide⟩ rfl rfl (Nat.le_of_ble_eq_true rfl) dX5_isNumber_5 ?_
  exact v_zret hC hR rfl rfl (nar_b _) dX5_isNumber_8

theorem hd_X5_kindOf : yX5_kindOf.cls = RX5 ∧ yX5_kindOf.cls ≠ "java/lang/invoke/MethodHandle" ∧ yX5_kindOf.cls ≠ "java/lang/invoke/VarHandle" ∧ (parseMethodDescriptor yX5_kindOf.desc).map (fun d => d.parameters.length) = some 2 := by decide +kernel
set_option maxHeartbeats 4000000 in
set_option maxRecDepth 100000 in
theorem c_X5_kindOf (Λ : Lk) (X : XS) (Y : YS) {s : Nat} {b : Nat} (hs : s < 6) (hb : b < 8) : Con Λ yX5_kindOf wsX5_kindOf { frames := 1, cells := 0, slots := 0, locals := 22 } [rf Λ 204, .int (nI s), .int (nI b)] (CC Λ X Y) (some (.int (kindN (yn Y) s b))) (CC Λ X Y) := by
  refine con_start (cc := cX5_kindOf) (maxL := 3) (ret := (some .int)) (by decide) rfl (Nat.le_of_ble_eq_true rfl) ?_
  intro κ hC hR
  have hC : Ok Λ { frames := 1, cells := 0, slots := 0, locals := 22 } cX5_kindOf wsX5_kindOf RX5 3 κ := hC
  refine v_args (lv' := [(0, rf Λ 204), (1, .int (nI s)), (2, .int (nI b))]) rfl ?_
  refine v_aload_n hC dX5_kindOf_0 0 rfl ?_
  refine v_iload_n hC dX5_kindOf_1 1 rfl ?_
  refine v_iconst (v := 3) hC dX5_kindOf_2 (by decide) ?_
  refine v_iload_n hC dX5_kindOf_3 2 rfl ?_
  refine v_iadd (x := 3) (y := nI b) hC dX5_kindOf_4 ?_
  refine v_topi (y := nI (3 + b)) (nI_add 3 b) ?_
  refine v_callVr (As := [.int (nI s), .int (nI (3 + b))]) (rest := []) hC 2 204 (c_X5_of Λ X Y (s := s) (w := 3 + b) (by omega) (by omega)) (nR_of (by decide)) (cc_204 Λ X Y) rfl gX5_kindOf_X5_of rfl rfl rfl hd_X5_of ⟨by decide, by decide⟩ rfl rfl (Nat.le_of_ble_eq_true rfl) dX5_kindOf_5 ?_
  refine v_iconst (v := 1) hC dX5_kindOf_8 (by decide) ?_
  refine v_isub (x := ofN (yn Y) s (3 + b)) (y := 1) hC dX5_kindOf_9 ?_
  exact v_iret hC hR rfl rfl dX5_kindOf_10

theorem hd_X5_manyIn : yX5_manyIn.cls = RX5 ∧ yX5_manyIn.cls ≠ "java/lang/invoke/MethodHandle" ∧ yX5_manyIn.cls ≠ "java/lang/invoke/VarHandle" ∧ (parseMethodDescriptor yX5_manyIn.desc).map (fun d => d.parameters.length) = some 2 := by decide +kernel
set_option maxHeartbeats 4000000 in
set_option maxRecDepth 100000 in
theorem c_X5_manyIn (Λ : Lk) (X : XS) (Y : YS) {s : Nat} {b : Nat} (hs : s < 6) (hb : b < 8) : Con Λ yX5_manyIn wsX5_manyIn { frames := 2, cells := 0, slots := 0, locals := 44 } [rf Λ 204, .int (nI s), .int (nI b)] (CC Λ X Y) (some (.int (nI (manyN (yn Y) s b)))) (CC Λ X Y) := by
  refine con_start (cc := cX5_manyIn) (maxL := 5) (ret := (some .int)) (by decide) rfl (Nat.le_of_ble_eq_true rfl) ?_
  intro κ hC hR
  have hC : Ok Λ { frames := 2, cells := 0, slots := 0, locals := 44 } cX5_manyIn wsX5_manyIn RX5 5 κ := hC
  refine v_args (lv' := [(0, rf Λ 204), (1, .int (nI s)), (2, .int (nI b))]) rfl ?_
  refine v_iconst (v := 0) hC dX5_manyIn_0 (by decide) ?_
  refine v_istore_n (lv' := [(3, .int 0), (0, rf Λ 204), (1, .int (nI s)), (2, .int (nI b))]) hC dX5_manyIn_1 (by decide) rfl ?_
  refine v_sipush (v := 256) hC dX5_manyIn_2 (by decide) ?_
  refine v_iload_n hC dX5_manyIn_5 3 rfl ?_
  refine v_imul (x := 256) (y := nI b) hC dX5_manyIn_6 ?_
  refine v_topi (y := nI (256 * b)) (pk_mul 256 b) ?_
  refine v_istore (lv' := [(4, .int (nI (256 * b))), (3, .int 0), (0, rf Λ 204), (1, .int (nI s)), (2, .int (nI b))]) hC dX5_manyIn_7 (by decide) rfl ?_
  have L9 : ∀ (k : Nat) (j : Nat) (x3 : Int32) (x4 : Int32), j ≤ 256 → x3 = nI (cnt (mb (yn Y) s) (256 * b) j) → x4 = nI (256 * b + j) → 256 - j < k → V Λ κ (CC Λ X Y) 9 [(0, rf Λ 204), (1, .int (nI s)), (2, .int (nI b)), (3, .int x3), (4, .int x4)] [] := by
    intro k
    induction k with
    | zero => intro j x3 x4 hj e3 e4 hk; exact absurd hk (Nat.not_lt_zero _)
    | succ k ih =>
      intro j x3 x4 hj e3 e4 hk
      subst e3
      subst e4
      have hcl := cnt_le (mb (yn Y) s) (256 * b) j
      refine v_iload hC dX5_manyIn_9 4 rfl ?_
      refine v_sipush (v := 256) hC dX5_manyIn_11 (by decide) ?_
      refine v_iload_n hC dX5_manyIn_14 2 rfl ?_
      refine v_imul (x := 256) (y := nI b) hC dX5_manyIn_15 ?_
      refine v_topi (y := nI (256 * b)) (pk_mul 256 b) ?_
      refine v_sipush (v := 256) hC dX5_manyIn_16 (by decide) ?_
      refine v_iadd (x := nI (256 * b)) (y := 256) hC dX5_manyIn_19 ?_
      refine v_topi (y := nI (256 * b + 256)) (nI_add (256 * b) 256) ?_
      refine v_nge (a := 256 * b + j) (b := 256 * b + 256) (tgt := 47) hC dX5_manyIn_20 (by decide) rfl rfl (by omega) (by omega) (fun c20 => ?_) (fun c20 => ?_)
      · skip
        refine v_iload_n hC dX5_manyIn_47 3 rfl ?_
        exact v_iret hC hR (congrArg (fun z : Int32 => some (Value.int z)) (by have e : j = 256 := (by omega); subst e; rfl)) rfl dX5_manyIn_48
      · skip
        refine v_iload_n hC dX5_manyIn_23 3 rfl ?_
        refine v_aload_n hC dX5_manyIn_24 0 rfl ?_
        refine v_iload_n hC dX5_manyIn_25 1 rfl ?_
        refine v_iload hC dX5_manyIn_26 4 rfl ?_
        refine v_callVr (As := [.int (nI s), .int (nI (256 * b + j))]) (rest := [.int (nI (cnt (mb (yn Y) s) (256 * b) j))]) hC 2 204 (c_X5_isIn Λ X Y (s := s) (n := 256 * b + j) (by omega) (by omega)) (nR_of (by decide)) (cc_204 Λ X Y) rfl gX5_manyIn_X5_isIn rfl rfl rfl hd_X5_isIn ⟨by decide, by decide⟩ rfl rfl (Nat.le_of_ble_eq_true rfl) dX5_manyIn_28 ?_
        refine v_beq (b := mb (yn Y) s (256 * b + j)) (tgt := 38) hC dX5_manyIn_31 (by decide) (fun c31 => ?_) (fun c31 => ?_)
        · skip
          refine v_iconst (v := 0) hC dX5_manyIn_38 (by decide) ?_
          refine v_iadd (x := nI (cnt (mb (yn Y) s) (256 * b) j)) (y := 0) hC dX5_manyIn_39 ?_
          refine v_topi (y := nI (cnt (mb (yn Y) s) (256 * b) j + 0)) (nI_add (cnt (mb (yn Y) s) (256 * b) j) 0) ?_
          refine v_istore_n (lv' := [(3, .int (nI (cnt (mb (yn Y) s) (256 * b) j + 0))), (0, rf Λ 204), (1, .int (nI s)), (2, .int (nI b)), (4, .int (nI (256 * b + j)))]) hC dX5_manyIn_40 (by decide) rfl ?_
          refine v_iinc (j := 4) (v := nI (256 * b + j + 1)) (lv' := [(4, .int (nI (256 * b + j + 1))), (3, .int (nI (cnt (mb (yn Y) s) (256 * b) j + 0))), (0, rf Λ 204), (1, .int (nI s)), (2, .int (nI b))]) hC dX5_manyIn_41 rfl (nI_add (256 * b + j) 1) (by decide) rfl ?_
          refine v_goto (tgt := 9) hC dX5_manyIn_44 (by decide) ?_
          refine v_sub (lv' := [(0, rf Λ 204), (1, .int (nI s)), (2, .int (nI b)), (3, .int (nI (cnt (mb (yn Y) s) (256 * b) j + 0))), (4, .int (nI (256 * b + j + 1)))]) [2, 3, 4, 1, 0] rfl ?_
          exact ih (j + 1) _ _ (by omega) (by first | rw [cnt_T c31] | (rw [cnt_F c31]; rfl)) rfl (by omega)
        · skip
          refine v_iconst (v := 1) hC dX5_manyIn_34 (by decide) ?_
          refine v_goto (tgt := 39) hC dX5_manyIn_35 (by decide) ?_
          refine v_iadd (x := nI (cnt (mb (yn Y) s) (256 * b) j)) (y := 1) hC dX5_manyIn_39 ?_
          refine v_topi (y := nI (cnt (mb (yn Y) s) (256 * b) j + 1)) (nI_add (cnt (mb (yn Y) s) (256 * b) j) 1) ?_
          refine v_istore_n (lv' := [(3, .int (nI (cnt (mb (yn Y) s) (256 * b) j + 1))), (0, rf Λ 204), (1, .int (nI s)), (2, .int (nI b)), (4, .int (nI (256 * b + j)))]) hC dX5_manyIn_40 (by decide) rfl ?_
          refine v_iinc (j := 4) (v := nI (256 * b + j + 1)) (lv' := [(4, .int (nI (256 * b + j + 1))), (3, .int (nI (cnt (mb (yn Y) s) (256 * b) j + 1))), (0, rf Λ 204), (1, .int (nI s)), (2, .int (nI b))]) hC dX5_manyIn_41 rfl (nI_add (256 * b + j) 1) (by decide) rfl ?_
          refine v_goto (tgt := 9) hC dX5_manyIn_44 (by decide) ?_
          refine v_sub (lv' := [(0, rf Λ 204), (1, .int (nI s)), (2, .int (nI b)), (3, .int (nI (cnt (mb (yn Y) s) (256 * b) j + 1))), (4, .int (nI (256 * b + j + 1)))]) [2, 3, 4, 1, 0] rfl ?_
          exact ih (j + 1) _ _ (by omega) (by first | rw [cnt_T c31] | (rw [cnt_F c31]; rfl)) rfl (by omega)
  refine v_sub (lv' := [(0, rf Λ 204), (1, .int (nI s)), (2, .int (nI b)), (3, .int 0), (4, .int (nI (256 * b)))]) [2, 3, 4, 1, 0] rfl ?_
  exact L9 _ 0 _ _ (by omega) rfl rfl (Nat.lt_succ_self _)

theorem hd_X5_runsIn : yX5_runsIn.cls = RX5 ∧ yX5_runsIn.cls ≠ "java/lang/invoke/MethodHandle" ∧ yX5_runsIn.cls ≠ "java/lang/invoke/VarHandle" ∧ (parseMethodDescriptor yX5_runsIn.desc).map (fun d => d.parameters.length) = some 2 := by decide +kernel
set_option maxHeartbeats 4000000 in
set_option maxRecDepth 100000 in
theorem c_X5_runsIn (Λ : Lk) (X : XS) (Y : YS) {s : Nat} {b : Nat} (hs : s < 6) (hb : b < 8) : Con Λ yX5_runsIn wsX5_runsIn { frames := 2, cells := 0, slots := 0, locals := 44 } [rf Λ 204, .int (nI s), .int (nI b)] (CC Λ X Y) (some (.int (nI (runsN (yn Y) s b)))) (CC Λ X Y) := by
  refine con_start (cc := cX5_runsIn) (maxL := 5) (ret := (some .int)) (by decide) rfl (Nat.le_of_ble_eq_true rfl) ?_
  intro κ hC hR
  have hC : Ok Λ { frames := 2, cells := 0, slots := 0, locals := 44 } cX5_runsIn wsX5_runsIn RX5 5 κ := hC
  refine v_args (lv' := [(0, rf Λ 204), (1, .int (nI s)), (2, .int (nI b))]) rfl ?_
  refine v_iconst (v := 0) hC dX5_runsIn_0 (by decide) ?_
  refine v_istore_n (lv' := [(3, .int 0), (0, rf Λ 204), (1, .int (nI s)), (2, .int (nI b))]) hC dX5_runsIn_1 (by decide) rfl ?_
  refine v_sipush (v := 256) hC dX5_runsIn_2 (by decide) ?_
  refine v_iload_n hC dX5_runsIn_5 3 rfl ?_
  refine v_imul (x := 256) (y := nI b) hC dX5_runsIn_6 ?_
  refine v_topi (y := nI (256 * b)) (pk_mul 256 b) ?_
  refine v_istore (lv' := [(4, .int (nI (256 * b))), (3, .int 0), (0, rf Λ 204), (1, .int (nI s)), (2, .int (nI b))]) hC dX5_runsIn_7 (by decide) rfl ?_
  have L9 : ∀ (k : Nat) (j : Nat) (x3 : Int32) (x4 : Int32), j ≤ 256 → x3 = nI (cnt (runB (mb (yn Y) s)) (256 * b) j) → x4 = nI (256 * b + j) → 256 - j < k → V Λ κ (CC Λ X Y) 9 [(0, rf Λ 204), (1, .int (nI s)), (2, .int (nI b)), (3, .int x3), (4, .int x4)] [] := by
    intro k
    induction k with
    | zero => intro j x3 x4 hj e3 e4 hk; exact absurd hk (Nat.not_lt_zero _)
    | succ k ih =>
      intro j x3 x4 hj e3 e4 hk
      subst e3
      subst e4
      have hcl := cnt_le (runB (mb (yn Y) s)) (256 * b) j
      refine v_iload hC dX5_runsIn_9 4 rfl ?_
      refine v_sipush (v := 256) hC dX5_runsIn_11 (by decide) ?_
      refine v_iload_n hC dX5_runsIn_14 2 rfl ?_
      refine v_imul (x := 256) (y := nI b) hC dX5_runsIn_15 ?_
      refine v_topi (y := nI (256 * b)) (pk_mul 256 b) ?_
      refine v_sipush (v := 256) hC dX5_runsIn_16 (by decide) ?_
      refine v_iadd (x := nI (256 * b)) (y := 256) hC dX5_runsIn_19 ?_
      refine v_topi (y := nI (256 * b + 256)) (nI_add (256 * b) 256) ?_
      refine v_nge (a := 256 * b + j) (b := 256 * b + 256) (tgt := 68) hC dX5_runsIn_20 (by decide) rfl rfl (by omega) (by omega) (fun c20 => ?_) (fun c20 => ?_)
      · skip
        refine v_iload_n hC dX5_runsIn_68 3 rfl ?_
        exact v_iret hC hR (congrArg (fun z : Int32 => some (Value.int z)) (by have e : j = 256 := (by omega); subst e; rfl)) rfl dX5_runsIn_69
      · skip
        refine v_iload_n hC dX5_runsIn_23 3 rfl ?_
        refine v_aload_n hC dX5_runsIn_24 0 rfl ?_
        refine v_iload_n hC dX5_runsIn_25 1 rfl ?_
        refine v_iload hC dX5_runsIn_26 4 rfl ?_
        refine v_callVr (As := [.int (nI s), .int (nI (256 * b + j))]) (rest := [.int (nI (cnt (runB (mb (yn Y) s)) (256 * b) j))]) hC 2 204 (c_X5_isIn Λ X Y (s := s) (n := 256 * b + j) (by omega) (by omega)) (nR_of (by decide)) (cc_204 Λ X Y) rfl gX5_runsIn_X5_isIn rfl rfl rfl hd_X5_isIn ⟨by decide, by decide⟩ rfl rfl (Nat.le_of_ble_eq_true rfl) dX5_runsIn_28 ?_
        refine v_beq (b := mb (yn Y) s (256 * b + j)) (tgt := 59) hC dX5_runsIn_31 (by decide) (fun c31 => ?_) (fun c31 => ?_)
        · skip
          refine v_iconst (v := 0) hC dX5_runsIn_59 (by decide) ?_
          refine v_iadd (x := nI (cnt (runB (mb (yn Y) s)) (256 * b) j)) (y := 0) hC dX5_runsIn_60 ?_
          refine v_topi (y := nI (cnt (runB (mb (yn Y) s)) (256 * b) j + 0)) (nI_add (cnt (runB (mb (yn Y) s)) (256 * b) j) 0) ?_
          refine v_istore_n (lv' := [(3, .int (nI (cnt (runB (mb (yn Y) s)) (256 * b) j + 0))), (0, rf Λ 204), (1, .int (nI s)), (2, .int (nI b)), (4, .int (nI (256 * b + j)))]) hC dX5_runsIn_61 (by decide) rfl ?_
          refine v_iinc (j := 4) (v := nI (256 * b + j + 1)) (lv' := [(4, .int (nI (256 * b + j + 1))), (3, .int (nI (cnt (runB (mb (yn Y) s)) (256 * b) j + 0))), (0, rf Λ 204), (1, .int (nI s)), (2, .int (nI b))]) hC dX5_runsIn_62 rfl (nI_add (256 * b + j) 1) (by decide) rfl ?_
          refine v_goto (tgt := 9) hC dX5_runsIn_65 (by decide) ?_
          refine v_sub (lv' := [(0, rf Λ 204), (1, .int (nI s)), (2, .int (nI b)), (3, .int (nI (cnt (runB (mb (yn Y) s)) (256 * b) j + 0))), (4, .int (nI (256 * b + j + 1)))]) [2, 3, 4, 1, 0] rfl ?_
          exact ih (j + 1) _ _ (by omega) (by first | (rw [cnt_F (runB_F3 c31 c40 c52)]; rfl) | rw [cnt_T (runB_T3 c31 c52)] | rw [cnt_T (runB_T2 c31 c40)] | (rw [cnt_F (runB_F1 c31)]; rfl)) rfl (by omega)
        · skip
          refine v_iload hC dX5_runsIn_34 4 rfl ?_
          refine v_sipush (v := 256) hC dX5_runsIn_36 (by decide) ?_
          refine v_irem (x := nI (256 * b + j)) (y := 256) hC dX5_runsIn_39 (by decide) ?_
          refine v_topi (y := nI ((256 * b + j) % 256)) (pk_rem (a := 256 * b + j) (d := 256) (by omega) (by decide) (by decide)) ?_
          refine v_zeq (a := (256 * b + j) % 256) (tgt := 55) hC dX5_runsIn_40 (by decide) rfl (by omega) (fun c40 => ?_) (fun c40 => ?_)
          · skip
            refine v_iconst (v := 1) hC dX5_runsIn_55 (by decide) ?_
            refine v_goto (tgt := 60) hC dX5_runsIn_56 (by decide) ?_
            refine v_iadd (x := nI (cnt (runB (mb (yn Y) s)) (256 * b) j)) (y := 1) hC dX5_runsIn_60 ?_
            refine v_topi (y := nI (cnt (runB (mb (yn Y) s)) (256 * b) j + 1)) (nI_add (cnt (runB (mb (yn Y) s)) (256 * b) j) 1) ?_
            refine v_istore_n (lv' := [(3, .int (nI (cnt (runB (mb (yn Y) s)) (256 * b) j + 1))), (0, rf Λ 204), (1, .int (nI s)), (2, .int (nI b)), (4, .int (nI (256 * b + j)))]) hC dX5_runsIn_61 (by decide) rfl ?_
            refine v_iinc (j := 4) (v := nI (256 * b + j + 1)) (lv' := [(4, .int (nI (256 * b + j + 1))), (3, .int (nI (cnt (runB (mb (yn Y) s)) (256 * b) j + 1))), (0, rf Λ 204), (1, .int (nI s)), (2, .int (nI b))]) hC dX5_runsIn_62 rfl (nI_add (256 * b + j) 1) (by decide) rfl ?_
            refine v_goto (tgt := 9) hC dX5_runsIn_65 (by decide) ?_
            refine v_sub (lv' := [(0, rf Λ 204), (1, .int (nI s)), (2, .int (nI b)), (3, .int (nI (cnt (runB (mb (yn Y) s)) (256 * b) j + 1))), (4, .int (nI (256 * b + j + 1)))]) [2, 3, 4, 1, 0] rfl ?_
            exact ih (j + 1) _ _ (by omega) (by first | (rw [cnt_F (runB_F3 c31 c40 c52)]; rfl) | rw [cnt_T (runB_T3 c31 c52)] | rw [cnt_T (runB_T2 c31 c40)] | (rw [cnt_F (runB_F1 c31)]; rfl)) rfl (by omega)
          · skip
            refine v_aload_n hC dX5_runsIn_43 0 rfl ?_
            refine v_iload_n hC dX5_runsIn_44 1 rfl ?_
            refine v_iload hC dX5_runsIn_45 4 rfl ?_
            refine v_iconst (v := 1) hC dX5_runsIn_47 (by decide) ?_
            refine v_isub (x := nI (256 * b + j)) (y := 1) hC dX5_runsIn_48 ?_
            refine v_topi (y := nI ((256 * b + j) - 1)) (pk_sub (a := 256 * b + j) (b := 1) (by omega)) ?_
            refine v_callVr (As := [.int (nI s), .int (nI ((256 * b + j) - 1))]) (rest := [.int (nI (cnt (runB (mb (yn Y) s)) (256 * b) j))]) hC 2 204 (c_X5_isIn Λ X Y (s := s) (n := (256 * b + j) - 1) (by omega) (by omega)) (nR_of (by decide)) (cc_204 Λ X Y) rfl gX5_runsIn_X5_isIn rfl rfl rfl hd_X5_isIn ⟨by decide, by decide⟩ rfl rfl (Nat.le_of_ble_eq_true rfl) dX5_runsIn_49 ?_
            refine v_bne (b := mb (yn Y) s ((256 * b + j) - 1)) (tgt := 59) hC dX5_runsIn_52 (by decide) (fun c52 => ?_) (fun c52 => ?_)
            · skip
              refine v_iconst (v := 0) hC dX5_runsIn_59 (by decide) ?_
              refine v_iadd (x := nI (cnt (runB (mb (yn Y) s)) (256 * b) j)) (y := 0) hC dX5_runsIn_60 ?_
              refine v_topi (y := nI (cnt (runB (mb (yn Y) s)) (256 * b) j + 0)) (nI_add (cnt (runB (mb (yn Y) s)) (256 * b) j) 0) ?_
              refine v_istore_n (lv' := [(3, .int (nI (cnt (runB (mb (yn Y) s)) (256 * b) j + 0))), (0, rf Λ 204), (1, .int (nI s)), (2, .int (nI b)), (4, .int (nI (256 * b + j)))]) hC dX5_runsIn_61 (by decide) rfl ?_
              refine v_iinc (j := 4) (v := nI (256 * b + j + 1)) (lv' := [(4, .int (nI (256 * b + j + 1))), (3, .int (nI (cnt (runB (mb (yn Y) s)) (256 * b) j + 0))), (0, rf Λ 204), (1, .int (nI s)), (2, .int (nI b))]) hC dX5_runsIn_62 rfl (nI_add (256 * b + j) 1) (by decide) rfl ?_
              refine v_goto (tgt := 9) hC dX5_runsIn_65 (by decide) ?_
              refine v_sub (lv' := [(0, rf Λ 204), (1, .int (nI s)), (2, .int (nI b)), (3, .int (nI (cnt (runB (mb (yn Y) s)) (256 * b) j + 0))), (4, .int (nI (256 * b + j + 1)))]) [2, 3, 4, 1, 0] rfl ?_
              exact ih (j + 1) _ _ (by omega) (by first | (rw [cnt_F (runB_F3 c31 c40 c52)]; rfl) | rw [cnt_T (runB_T3 c31 c52)] | rw [cnt_T (runB_T2 c31 c40)] | (rw [cnt_F (runB_F1 c31)]; rfl)) rfl (by omega)
            · skip
              refine v_iconst (v := 1) hC dX5_runsIn_55 (by decide) ?_
              refine v_goto (tgt := 60) hC dX5_runsIn_56 (by decide) ?_
              refine v_iadd (x := nI (cnt (runB (mb (yn Y) s)) (256 * b) j)) (y := 1) hC dX5_runsIn_60 ?_
              refine v_topi (y := nI (cnt (runB (mb (yn Y) s)) (256 * b) j + 1)) (nI_add (cnt (runB (mb (yn Y) s)) (256 * b) j) 1) ?_
              refine v_istore_n (lv' := [(3, .int (nI (cnt (runB (mb (yn Y) s)) (256 * b) j + 1))), (0, rf Λ 204), (1, .int (nI s)), (2, .int (nI b)), (4, .int (nI (256 * b + j)))]) hC dX5_runsIn_61 (by decide) rfl ?_
              refine v_iinc (j := 4) (v := nI (256 * b + j + 1)) (lv' := [(4, .int (nI (256 * b + j + 1))), (3, .int (nI (cnt (runB (mb (yn Y) s)) (256 * b) j + 1))), (0, rf Λ 204), (1, .int (nI s)), (2, .int (nI b))]) hC dX5_runsIn_62 rfl (nI_add (256 * b + j) 1) (by decide) rfl ?_
              refine v_goto (tgt := 9) hC dX5_runsIn_65 (by decide) ?_
              refine v_sub (lv' := [(0, rf Λ 204), (1, .int (nI s)), (2, .int (nI b)), (3, .int (nI (cnt (runB (mb (yn Y) s)) (256 * b) j + 1))), (4, .int (nI (256 * b + j + 1)))]) [2, 3, 4, 1, 0] rfl ?_
              exact ih (j + 1) _ _ (by omega) (by first | (rw [cnt_F (runB_F3 c31 c40 c52)]; rfl) | rw [cnt_T (runB_T3 c31 c52)] | rw [cnt_T (runB_T2 c31 c40)] | (rw [cnt_F (runB_F1 c31)]; rfl)) rfl (by omega)
  refine v_sub (lv' := [(0, rf Λ 204), (1, .int (nI s)), (2, .int (nI b)), (3, .int 0), (4, .int (nI (256 * b)))]) [2, 3, 4, 1, 0] rfl ?_
  exact L9 _ 0 _ _ (by omega) rfl rfl (Nat.lt_succ_self _)

theorem hd_X5_holds : yX5_holds.cls ≠ "java/lang/invoke/MethodHandle" ∧ yX5_holds.cls ≠ "java/lang/invoke/VarHandle" ∧ (parseMethodDescriptor yX5_holds.desc).map (fun d => d.parameters.length) = some 3 := by decide +kernel
set_option maxHeartbeats 4000000 in
set_option maxRecDepth 100000 in
theorem c_X5_holds (Λ : Lk) (X : XS) (Y : YS) {k : Int32} {m : Int32} {r : Int32} : Con Λ yX5_holds wsX5_holds { frames := 0, cells := 0, slots := 0, locals := 0 } [.int k, .int m, .int r] (CC Λ X Y) (some (.int (bI (holdsI k m r)))) (CC Λ X Y) := by
  refine con_start (cc := cX5_holds) (maxL := 3) (ret := (some .boolean)) (by decide) rfl (Nat.le_of_ble_eq_true rfl) ?_
  intro κ hC hR
  have hC : Ok Λ { frames := 0, cells := 0, slots := 0, locals := 0 } cX5_holds wsX5_holds RX5 3 κ := hC
  refine v_args (lv' := [(0, .int k), (1, .int m), (2, .int r)]) rfl ?_
  refine v_iload_n hC dX5_holds_0 0 rfl ?_
  refine v_if_ne (tgt := 18) hC dX5_holds_1 (by decide) (fun c1 => ?_) (fun c1 => ?_)
  · skip
    refine v_iload_n hC dX5_holds_18 0 rfl ?_
    refine v_iconst (v := 1) hC dX5_holds_19 (by decide) ?_
    refine v_icmp_eq (x := k) (y := 1) (tgt := 29) hC dX5_holds_20 (by decide) (fun c20 => ?_) (fun c20 => ?_)
    · skip
      refine v_iconst (v := 1) hC dX5_holds_29 (by decide) ?_
      refine v_goto (tgt := 34) hC dX5_holds_30 (by decide) ?_
      exact v_zret hC hR (congrArg (fun z : Int32 => some (Value.int z)) (by simp [bI, holdsI, *])) rfl rfl dX5_holds_34
    · skip
      refine v_iload_n hC dX5_holds_23 2 rfl ?_
      refine v_bipush (v := 8) hC dX5_holds_24 (by decide) ?_
      refine v_icmp_gt (x := r) (y := 8) (tgt := 33) hC dX5_holds_26 (by decide) (fun c26 => ?_) (fun c26 => ?_)
      · have c26' := Int32.not_le.mpr c26
        refine v_iconst (v := 0) hC dX5_holds_33 (by decide) ?_
        exact v_zret hC hR (congrArg (fun z : Int32 => some (Value.int z)) (by simp [bI, holdsI, *])) rfl rfl dX5_holds_34
      · have c26' := Int32.not_lt.mp c26
        refine v_iconst (v := 1) hC dX5_holds_29 (by decide) ?_
        refine v_goto (tgt := 34) hC dX5_holds_30 (by decide) ?_
        exact v_zret hC hR (congrArg (fun z : Int32 => some (Value.int z)) (by simp [bI, holdsI, *])) rfl rfl dX5_holds_34
  · skip
    refine v_iload_n hC dX5_holds_4 1 rfl ?_
    refine v_bipush (v := 24) hC dX5_holds_5 (by decide) ?_
    refine v_icmp_gt (x := m) (y := 24) (tgt := 14) hC dX5_holds_7 (by decide) (fun c7 => ?_) (fun c7 => ?_)
    · have c7' := Int32.not_le.mpr c7
      refine v_iconst (v := 0) hC dX5_holds_14 (by decide) ?_
      refine v_goto (tgt := 34) hC dX5_holds_15 (by decide) ?_
      exact v_zret hC hR (congrArg (fun z : Int32 => some (Value.int z)) (by simp [bI, holdsI, *])) rfl rfl dX5_holds_34
    · have c7' := Int32.not_lt.mp c7
      refine v_iconst (v := 1) hC dX5_holds_10 (by decide) ?_
      refine v_goto (tgt := 34) hC dX5_holds_11 (by decide) ?_
      exact v_zret hC hR (congrArg (fun z : Int32 => some (Value.int z)) (by simp [bI, holdsI, *])) rfl rfl dX5_holds_34

theorem hd_X5_units : yX5_units.cls ≠ "java/lang/invoke/MethodHandle" ∧ yX5_units.cls ≠ "java/lang/invoke/VarHandle" ∧ (parseMethodDescriptor yX5_units.desc).map (fun d => d.parameters.length) = some 3 := by decide +kernel
set_option maxHeartbeats 4000000 in
set_option maxRecDepth 100000 in
theorem c_X5_units (Λ : Lk) (X : XS) (Y : YS) {k : Int32} {m : Int32} {r : Int32} : Con Λ yX5_units wsX5_units { frames := 0, cells := 0, slots := 0, locals := 0 } [.int k, .int m, .int r] (CC Λ X Y) (some (.int (unitsI k m r))) (CC Λ X Y) := by
  refine con_start (cc := cX5_units) (maxL := 3) (ret := (some .int)) (by decide) rfl (Nat.le_of_ble_eq_true rfl) ?_
  intro κ hC hR
  have hC : Ok Λ { frames := 0, cells := 0, slots := 0, locals := 0 } cX5_units wsX5_units RX5 3 κ := hC
  refine v_args (lv' := [(0, .int k), (1, .int m), (2, .int r)]) rfl ?_
  refine v_iload_n hC dX5_units_0 0 rfl ?_
  refine v_if_ne (tgt := 10) hC dX5_units_1 (by decide) (fun c1 => ?_) (fun c1 => ?_)
  · skip
    refine v_iload_n hC dX5_units_10 0 rfl ?_
    refine v_iconst (v := 1) hC dX5_units_11 (by decide) ?_
    refine v_icmp_ne (x := k) (y := 1) (tgt := 20) hC dX5_units_12 (by decide) (fun c12 => ?_) (fun c12 => ?_)
    · skip
      refine v_iconst (v := 3) hC dX5_units_20 (by decide) ?_
      refine v_iload_n hC dX5_units_21 2 rfl ?_
      refine v_imul (x := 3) (y := r) hC dX5_units_22 ?_
      exact v_iret hC hR (congrArg (fun z : Int32 => some (Value.int z)) (by simp [unitsI, *])) rfl dX5_units_23
    · skip
      refine v_bipush (v := 32) hC dX5_units_15 (by decide) ?_
      refine v_goto (tgt := 23) hC dX5_units_17 (by decide) ?_
      exact v_iret hC hR (congrArg (fun z : Int32 => some (Value.int z)) (by simp [unitsI, *])) rfl dX5_units_23
  · skip
    refine v_iconst (v := 2) hC dX5_units_4 (by decide) ?_
    refine v_iload_n hC dX5_units_5 1 rfl ?_
    refine v_imul (x := 2) (y := m) hC dX5_units_6 ?_
    refine v_goto (tgt := 23) hC dX5_units_7 (by decide) ?_
    exact v_iret hC hR (congrArg (fun z : Int32 => some (Value.int z)) (by simp [unitsI, *])) rfl dX5_units_23

theorem hd_X5_best : yX5_best.cls ≠ "java/lang/invoke/MethodHandle" ∧ yX5_best.cls ≠ "java/lang/invoke/VarHandle" ∧ (parseMethodDescriptor yX5_best.desc).map (fun d => d.parameters.length) = some 2 := by decide +kernel
set_option maxHeartbeats 4000000 in
set_option maxRecDepth 100000 in
theorem c_X5_best (Λ : Lk) (X : XS) (Y : YS) {m : Int32} {r : Int32} : Con Λ yX5_best wsX5_best { frames := 1, cells := 0, slots := 0, locals := 22 } [.int m, .int r] (CC Λ X Y) (some (.int (bestI m r))) (CC Λ X Y) := by
  refine con_start (cc := cX5_best) (maxL := 3) (ret := (some .int)) (by decide) rfl (Nat.le_of_ble_eq_true rfl) ?_
  intro κ hC hR
  have hC : Ok Λ { frames := 1, cells := 0, slots := 0, locals := 22 } cX5_best wsX5_best RX5 3 κ := hC
  refine v_args (lv' := [(0, .int m), (1, .int r)]) rfl ?_
  refine v_iconst (v := 1) hC dX5_best_0 (by decide) ?_
  refine v_istore_n (lv' := [(2, .int 1), (0, .int m), (1, .int r)]) hC dX5_best_1 (by decide) rfl ?_
  refine v_iconst (v := 2) hC dX5_best_2 (by decide) ?_
  refine v_iload_n hC dX5_best_3 1 rfl ?_
  refine v_iload_n hC dX5_best_4 2 rfl ?_
  refine v_callSr (As := [.int 2, .int m, .int r]) (rest := []) hC 3 (c_X5_holds Λ X Y (k := 2) (m := m) (r := r)) gX5_best_X5_holds rfl rfl rfl hd_X5_holds ⟨by decide, by decide⟩ rfl rfl (Nat.le_of_ble_eq_true rfl) dX5_best_5 ?_
  refine v_beq (b := holdsI 2 m r) (tgt := 30) hC dX5_best_8 (by decide) (fun c8 => ?_) (fun c8 => ?_)
  · skip
    refine v_iload_n hC dX5_best_30 0 rfl ?_
    refine v_istore_n (lv' := [(2, .int 1), (0, .int m), (1, .int r)]) hC dX5_best_31 (by decide) rfl ?_
    refine v_iconst (v := 0) hC dX5_best_32 (by decide) ?_
    refine v_iload_n hC dX5_best_33 1 rfl ?_
    refine v_iload_n hC dX5_best_34 2 rfl ?_
    refine v_callSr (As := [.int 0, .int m, .int r]) (rest := []) hC 3 (c_X5_holds Λ X Y (k := 0) (m := m) (r := r)) gX5_best_X5_holds rfl rfl rfl hd_X5_holds ⟨by decide, by decide⟩ rfl rfl (Nat.le_of_ble_eq_true rfl) dX5_best_35 ?_
    refine v_beq (b := holdsI 0 m r) (tgt := 60) hC dX5_best_38 (by decide) (fun c38 => ?_) (fun c38 => ?_)
    · skip
      refine v_iload_n hC dX5_best_60 0 rfl ?_
      exact v_iret hC hR (congrArg (fun z : Int32 => some (Value.int z)) (by simp [bestI, *])) rfl dX5_best_61
    · skip
      refine v_iconst (v := 0) hC dX5_best_41 (by decide) ?_
      refine v_iload_n hC dX5_best_42 1 rfl ?_
      refine v_iload_n hC dX5_best_43 2 rfl ?_
      refine v_callSr (As := [.int 0, .int m, .int r]) (rest := []) hC 3 (c_X5_units Λ X Y (k := 0) (m := m) (r := r)) gX5_best_X5_units rfl rfl rfl hd_X5_units ⟨by decide, by decide⟩ rfl rfl (Nat.le_of_ble_eq_true rfl) dX5_best_44 ?_
      refine v_iload_n hC dX5_best_47 0 rfl ?_
      refine v_iload_n hC dX5_best_48 1 rfl ?_
      refine v_iload_n hC dX5_best_49 2 rfl ?_
      refine v_callSr (As := [.int 1, .int m, .int r]) (rest := [.int (unitsI 0 m r)]) hC 3 (c_X5_units Λ X Y (k := 1) (m := m) (r := r)) gX5_best_X5_units rfl rfl rfl hd_X5_units ⟨by decide, by decide⟩ rfl rfl (Nat.le_of_ble_eq_true rfl) dX5_best_50 ?_
      refine v_icmp_gt (x := unitsI 0 m r) (y := unitsI 1 m r) (tgt := 60) hC dX5_best_53 (by decide) (fun c53 => ?_) (fun c53 => ?_)
      · have c53' := Int32.not_le.mpr c53
        refine v_iload_n hC dX5_best_60 0 rfl ?_
        exact v_iret hC hR (congrArg (fun z : Int32 => some (Value.int z)) (by simp [bestI, *])) rfl dX5_best_61
      · have c53' := Int32.not_lt.mp c53
        refine v_iconst (v := 0) hC dX5_best_56 (by decide) ?_
        refine v_goto (tgt := 61) hC dX5_best_57 (by decide) ?_
        exact v_iret hC hR (congrArg (fun z : Int32 => some (Value.int z)) (by simp [bestI, *])) rfl dX5_best_61
  · skip
    refine v_iconst (v := 2) hC dX5_best_11 (by decide) ?_
    refine v_iload_n hC dX5_best_12 1 rfl ?_
    refine v_iload_n hC dX5_best_13 2 rfl ?_
    refine v_callSr (As := [.int 2, .int m, .int r]) (rest := []) hC 3 (c_X5_units Λ X Y (k := 2) (m := m) (r := r)) gX5_best_X5_units rfl rfl rfl hd_X5_units ⟨by decide, by decide⟩ rfl rfl (Nat.le_of_ble_eq_true rfl) dX5_best_14 ?_
    refine v_iload_n hC dX5_best_17 0 rfl ?_
    refine v_iload_n hC dX5_best_18 1 rfl ?_
    refine v_iload_n hC dX5_best_19 2 rfl ?_
    refine v_callSr (As := [.int 1, .int m, .int r]) (rest := [.int (unitsI 2 m r)]) hC 3 (c_X5_units Λ X Y (k := 1) (m := m) (r := r)) gX5_best_X5_units rfl rfl rfl hd_X5_units ⟨by decide, by decide⟩ rfl rfl (Nat.le_of_ble_eq_true rfl) dX5_best_20 ?_
    refine v_icmp_ge (x := unitsI 2 m r) (y := unitsI 1 m r) (tgt := 30) hC dX5_best_23 (by decide) (fun c23 => ?_) (fun c23 => ?_)
    · have c23' := Int32.not_lt.mpr c23
      refine v_iload_n hC dX5_best_30 0 rfl ?_
      refine v_istore_n (lv' := [(2, .int 1), (0, .int m), (1, .int r)]) hC dX5_best_31 (by decide) rfl ?_
      refine v_iconst (v := 0) hC dX5_best_32 (by decide) ?_
      refine v_iload_n hC dX5_best_33 1 rfl ?_
      refine v_iload_n hC dX5_best_34 2 rfl ?_
      refine v_callSr (As := [.int 0, .int m, .int r]) (rest := []) hC 3 (c_X5_holds Λ X Y (k := 0) (m := m) (r := r)) gX5_best_X5_holds rfl rfl rfl hd_X5_holds ⟨by decide, by decide⟩ rfl rfl (Nat.le_of_ble_eq_true rfl) dX5_best_35 ?_
      refine v_beq (b := holdsI 0 m r) (tgt := 60) hC dX5_best_38 (by decide) (fun c38 => ?_) (fun c38 => ?_)
      · skip
        refine v_iload_n hC dX5_best_60 0 rfl ?_
        exact v_iret hC hR (congrArg (fun z : Int32 => some (Value.int z)) (by simp [bestI, *])) rfl dX5_best_61
      · skip
        refine v_iconst (v := 0) hC dX5_best_41 (by decide) ?_
        refine v_iload_n hC dX5_best_42 1 rfl ?_
        refine v_iload_n hC dX5_best_43 2 rfl ?_
        refine v_callSr (As := [.int 0, .int m, .int r]) (rest := []) hC 3 (c_X5_units Λ X Y (k := 0) (m := m) (r := r)) gX5_best_X5_units rfl rfl rfl hd_X5_units ⟨by decide, by decide⟩ rfl rfl (Nat.le_of_ble_eq_true rfl) dX5_best_44 ?_
        refine v_iload_n hC dX5_best_47 0 rfl ?_
        refine v_iload_n hC dX5_best_48 1 rfl ?_
        refine v_iload_n hC dX5_best_49 2 rfl ?_
        refine v_callSr (As := [.int 1, .int m, .int r]) (rest := [.int (unitsI 0 m r)]) hC 3 (c_X5_units Λ X Y (k := 1) (m := m) (r := r)) gX5_best_X5_units rfl rfl rfl hd_X5_units ⟨by decide, by decide⟩ rfl rfl (Nat.le_of_ble_eq_true rfl) dX5_best_50 ?_
        refine v_icmp_gt (x := unitsI 0 m r) (y := unitsI 1 m r) (tgt := 60) hC dX5_best_53 (by decide) (fun c53 => ?_) (fun c53 => ?_)
        · have c53' := Int32.not_le.mpr c53
          refine v_iload_n hC dX5_best_60 0 rfl ?_
          exact v_iret hC hR (congrArg (fun z : Int32 => some (Value.int z)) (by simp [bestI, *])) rfl dX5_best_61
        · have c53' := Int32.not_lt.mp c53
          refine v_iconst (v := 0) hC dX5_best_56 (by decide) ?_
          refine v_goto (tgt := 61) hC dX5_best_57 (by decide) ?_
          exact v_iret hC hR (congrArg (fun z : Int32 => some (Value.int z)) (by simp [bestI, *])) rfl dX5_best_61
    · have c23' := Int32.not_le.mp c23
      refine v_iconst (v := 2) hC dX5_best_26 (by decide) ?_
      refine v_goto (tgt := 31) hC dX5_best_27 (by decide) ?_
      refine v_istore_n (lv' := [(2, .int 2), (0, .int m), (1, .int r)]) hC dX5_best_31 (by decide) rfl ?_
      refine v_iconst (v := 0) hC dX5_best_32 (by decide) ?_
      refine v_iload_n hC dX5_best_33 1 rfl ?_
      refine v_iload_n hC dX5_best_34 2 rfl ?_
      refine v_callSr (As := [.int 0, .int m, .int r]) (rest := []) hC 3 (c_X5_holds Λ X Y (k := 0) (m := m) (r := r)) gX5_best_X5_holds rfl rfl rfl hd_X5_holds ⟨by decide, by decide⟩ rfl rfl (Nat.le_of_ble_eq_true rfl) dX5_best_35 ?_
      refine v_beq (b := holdsI 0 m r) (tgt := 60) hC dX5_best_38 (by decide) (fun c38 => ?_) (fun c38 => ?_)
      · skip
        refine v_iload_n hC dX5_best_60 0 rfl ?_
        exact v_iret hC hR (congrArg (fun z : Int32 => some (Value.int z)) (by simp [bestI, *])) rfl dX5_best_61
      · skip
        refine v_iconst (v := 0) hC dX5_best_41 (by decide) ?_
        refine v_iload_n hC dX5_best_42 1 rfl ?_
        refine v_iload_n hC dX5_best_43 2 rfl ?_
        refine v_callSr (As := [.int 0, .int m, .int r]) (rest := []) hC 3 (c_X5_units Λ X Y (k := 0) (m := m) (r := r)) gX5_best_X5_units rfl rfl rfl hd_X5_units ⟨by decide, by decide⟩ rfl rfl (Nat.le_of_ble_eq_true rfl) dX5_best_44 ?_
        refine v_iload_n hC dX5_best_47 0 rfl ?_
        refine v_iload_n hC dX5_best_48 1 rfl ?_
        refine v_iload_n hC dX5_best_49 2 rfl ?_
        refine v_callSr (As := [.int 2, .int m, .int r]) (rest := [.int (unitsI 0 m r)]) hC 3 (c_X5_units Λ X Y (k := 2) (m := m) (r := r)) gX5_best_X5_units rfl rfl rfl hd_X5_units ⟨by decide, by decide⟩ rfl rfl (Nat.le_of_ble_eq_true rfl) dX5_best_50 ?_
        refine v_icmp_gt (x := unitsI 0 m r) (y := unitsI 2 m r) (tgt := 60) hC dX5_best_53 (by decide) (fun c53 => ?_) (fun c53 => ?_)
        · have c53' := Int32.not_le.mpr c53
          refine v_iload_n hC dX5_best_60 0 rfl ?_
          exact v_iret hC hR (congrArg (fun z : Int32 => some (Value.int z)) (by simp [bestI, *])) rfl dX5_best_61
        · have c53' := Int32.not_lt.mp c53
          refine v_iconst (v := 0) hC dX5_best_56 (by decide) ?_
          refine v_goto (tgt := 61) hC dX5_best_57 (by decide) ?_
          exact v_iret hC hR (congrArg (fun z : Int32 => some (Value.int z)) (by simp [bestI, *])) rfl dX5_best_61

theorem hd_X5_unitsOf : yX5_unitsOf.cls = RX5 ∧ yX5_unitsOf.cls ≠ "java/lang/invoke/MethodHandle" ∧ yX5_unitsOf.cls ≠ "java/lang/invoke/VarHandle" ∧ (parseMethodDescriptor yX5_unitsOf.desc).map (fun d => d.parameters.length) = some 2 := by decide +kernel
set_option maxHeartbeats 4000000 in
set_option maxRecDepth 100000 in
theorem c_X5_unitsOf (Λ : Lk) (X : XS) (Y : YS) {s : Nat} {b : Nat} (hs : s < 6) (hb : b < 8) : Con Λ yX5_unitsOf wsX5_unitsOf { frames := 3, cells := 0, slots := 0, locals := 68 } [rf Λ 204, .int (nI s), .int (nI b)] (CC Λ X Y) (some (.int (unitsN (yn Y) s b))) (CC Λ X Y) := by
  refine con_start (cc := cX5_unitsOf) (maxL := 3) (ret := (some .int)) (by decide) rfl (Nat.le_of_ble_eq_true rfl) ?_
  intro κ hC hR
  have hC : Ok Λ { frames := 3, cells := 0, slots := 0, locals := 68 } cX5_unitsOf wsX5_unitsOf RX5 3 κ := hC
  refine v_args (lv' := [(0, rf Λ 204), (1, .int (nI s)), (2, .int (nI b))]) rfl ?_
  refine v_aload_n hC dX5_unitsOf_0 0 rfl ?_
  refine v_iload_n hC dX5_unitsOf_1 1 rfl ?_
  refine v_iload_n hC dX5_unitsOf_2 2 rfl ?_
  refine v_callVr (As := [.int (nI s), .int (nI b)]) (rest := []) hC 2 204 (c_X5_kindOf Λ X Y (s := s) (b := b) (by omega) (by omega)) (nR_of (by decide)) (cc_204 Λ X Y) rfl gX5_unitsOf_X5_kindOf rfl rfl rfl hd_X5_kindOf ⟨by decide, by decide⟩ rfl rfl (Nat.le_of_ble_eq_true rfl) dX5_unitsOf_3 ?_
  refine v_aload_n hC dX5_unitsOf_6 0 rfl ?_
  refine v_iload_n hC dX5_unitsOf_7 1 rfl ?_
  refine v_iload_n hC dX5_unitsOf_8 2 rfl ?_
  refine v_callVr (As := [.int (nI s), .int (nI b)]) (rest := [.int (kindN (yn Y) s b)]) hC 2 204 (c_X5_manyIn Λ X Y (s := s) (b := b) (by omega) (by omega)) (nR_of (by decide)) (cc_204 Λ X Y) rfl gX5_unitsOf_X5_manyIn rfl rfl rfl hd_X5_manyIn ⟨by decide, by decide⟩ rfl rfl (Nat.le_of_ble_eq_true rfl) dX5_unitsOf_9 ?_
  refine v_aload_n hC dX5_unitsOf_12 0 rfl ?_
  refine v_iload_n hC dX5_unitsOf_13 1 rfl ?_
  refine v_iload_n hC dX5_unitsOf_14 2 rfl ?_
  refine v_callVr (As := [.int (nI s), .int (nI b)]) (rest := [.int (nI (manyN (yn Y) s b)), .int (kindN (yn Y) s b)]) hC 2 204 (c_X5_runsIn Λ X Y (s := s) (b := b) (by omega) (by omega)) (nR_of (by decide)) (cc_204 Λ X Y) rfl gX5_unitsOf_X5_runsIn rfl rfl rfl hd_X5_runsIn ⟨by decide, by decide⟩ rfl rfl (Nat.le_of_ble_eq_true rfl) dX5_unitsOf_15 ?_
  refine v_callSr (As := [.int (kindN (yn Y) s b), .int (nI (manyN (yn Y) s b)), .int (nI (runsN (yn Y) s b))]) (rest := []) hC 3 (c_X5_units Λ X Y (k := kindN (yn Y) s b) (m := nI (manyN (yn Y) s b)) (r := nI (runsN (yn Y) s b))) gX5_unitsOf_X5_units rfl rfl rfl hd_X5_units ⟨by decide, by decide⟩ rfl rfl (Nat.le_of_ble_eq_true rfl) dX5_unitsOf_18 ?_
  exact v_iret hC hR rfl rfl dX5_unitsOf_21

theorem hd_X5_bestOf : yX5_bestOf.cls = RX5 ∧ yX5_bestOf.cls ≠ "java/lang/invoke/MethodHandle" ∧ yX5_bestOf.cls ≠ "java/lang/invoke/VarHandle" ∧ (parseMethodDescriptor yX5_bestOf.desc).map (fun d => d.parameters.length) = some 2 := by decide +kernel
set_option maxHeartbeats 4000000 in
set_option maxRecDepth 100000 in
theorem c_X5_bestOf (Λ : Lk) (X : XS) (Y : YS) {s : Nat} {b : Nat} (hs : s < 6) (hb : b < 8) : Con Λ yX5_bestOf wsX5_bestOf { frames := 3, cells := 0, slots := 0, locals := 68 } [rf Λ 204, .int (nI s), .int (nI b)] (CC Λ X Y) (some (.int (bestN (yn Y) s b))) (CC Λ X Y) := by
  refine con_start (cc := cX5_bestOf) (maxL := 3) (ret := (some .int)) (by decide) rfl (Nat.le_of_ble_eq_true rfl) ?_
  intro κ hC hR
  have hC : Ok Λ { frames := 3, cells := 0, slots := 0, locals := 68 } cX5_bestOf wsX5_bestOf RX5 3 κ := hC
  refine v_args (lv' := [(0, rf Λ 204), (1, .int (nI s)), (2, .int (nI b))]) rfl ?_
  refine v_aload_n hC dX5_bestOf_0 0 rfl ?_
  refine v_iload_n hC dX5_bestOf_1 1 rfl ?_
  refine v_iload_n hC dX5_bestOf_2 2 rfl ?_
  refine v_callVr (As := [.int (nI s), .int (nI b)]) (rest := []) hC 2 204 (c_X5_manyIn Λ X Y (s := s) (b := b) (by omega) (by omega)) (nR_of (by decide)) (cc_204 Λ X Y) rfl gX5_bestOf_X5_manyIn rfl rfl rfl hd_X5_manyIn ⟨by decide, by decide⟩ rfl rfl (Nat.le_of_ble_eq_true rfl) dX5_bestOf_3 ?_
  refine v_aload_n hC dX5_bestOf_6 0 rfl ?_
  refine v_iload_n hC dX5_bestOf_7 1 rfl ?_
  refine v_iload_n hC dX5_bestOf_8 2 rfl ?_
  refine v_callVr (As := [.int (nI s), .int (nI b)]) (rest := [.int (nI (manyN (yn Y) s b))]) hC 2 204 (c_X5_runsIn Λ X Y (s := s) (b := b) (by omega) (by omega)) (nR_of (by decide)) (cc_204 Λ X Y) rfl gX5_bestOf_X5_runsIn rfl rfl rfl hd_X5_runsIn ⟨by decide, by decide⟩ rfl rfl (Nat.le_of_ble_eq_true rfl) dX5_bestOf_9 ?_
  refine v_callSr (As := [.int (nI (manyN (yn Y) s b)), .int (nI (runsN (yn Y) s b))]) (rest := []) hC 2 (c_X5_best Λ X Y (m := nI (manyN (yn Y) s b)) (r := nI (runsN (yn Y) s b))) gX5_bestOf_X5_best rfl rfl rfl hd_X5_best ⟨by decide, by decide⟩ rfl rfl (Nat.le_of_ble_eq_true rfl) dX5_bestOf_12 ?_
  exact v_iret hC hR rfl rfl dX5_bestOf_15

theorem hd_X5_tollOf : yX5_tollOf.cls = RX5 ∧ yX5_tollOf.cls ≠ "java/lang/invoke/MethodHandle" ∧ yX5_tollOf.cls ≠ "java/lang/invoke/VarHandle" ∧ (parseMethodDescriptor yX5_tollOf.desc).map (fun d => d.parameters.length) = some 2 := by decide +kernel
set_option maxHeartbeats 4000000 in
set_option maxRecDepth 100000 in
theorem c_X5_tollOf (Λ : Lk) (X : XS) (Y : YS) {s : Nat} {b : Nat} (hs : s < 6) (hb : b < 8) : Con Λ yX5_tollOf wsX5_tollOf { frames := 4, cells := 0, slots := 0, locals := 90 } [rf Λ 204, .int (nI s), .int (nI b)] (CC Λ X Y) (some (.int (tollN (yn Y) s b))) (CC Λ X Y) := by
  refine con_start (cc := cX5_tollOf) (maxL := 4) (ret := (some .int)) (by decide) rfl (Nat.le_of_ble_eq_true rfl) ?_
  intro κ hC hR
  have hC : Ok Λ { frames := 4, cells := 0, slots := 0, locals := 90 } cX5_tollOf wsX5_tollOf RX5 4 κ := hC
  refine v_args (lv' := [(0, rf Λ 204), (1, .int (nI s)), (2, .int (nI b))]) rfl ?_
  refine v_aload_n hC dX5_tollOf_0 0 rfl ?_
  refine v_iload_n hC dX5_tollOf_1 1 rfl ?_
  refine v_iload_n hC dX5_tollOf_2 2 rfl ?_
  refine v_callVr (As := [.int (nI s), .int (nI b)]) (rest := []) hC 2 204 (c_X5_bestOf Λ X Y (s := s) (b := b) (by omega) (by omega)) (nR_of (by decide)) (cc_204 Λ X Y) rfl gX5_tollOf_X5_bestOf rfl rfl rfl hd_X5_bestOf ⟨by decide, by decide⟩ rfl rfl (Nat.le_of_ble_eq_true rfl) dX5_tollOf_3 ?_
  refine v_istore_n (lv' := [(3, .int (bestN (yn Y) s b)), (0, rf Λ 204), (1, .int (nI s)), (2, .int (nI b))]) hC dX5_tollOf_6 (by decide) rfl ?_
  refine v_iload_n hC dX5_tollOf_7 0 rfl ?_
  refine v_aload_n hC dX5_tollOf_8 1 rfl ?_
  refine v_iload_n hC dX5_tollOf_9 2 rfl ?_
  refine v_iload_n hC dX5_tollOf_10 3 rfl ?_
  refine v_callVr (As := [.int (nI s), .int (nI b)]) (rest := [.int (bestN (yn Y) s b)]) hC 2 204 (c_X5_kindOf Λ X Y (s := s) (b := b) (by omega) (by omega)) (nR_of (by decide)) (cc_204 Λ X Y) rfl gX5_tollOf_X5_kindOf rfl rfl rfl hd_X5_kindOf ⟨by decide, by decide⟩ rfl rfl (Nat.le_of_ble_eq_true rfl) dX5_tollOf_11 ?_
  refine v_icmp_ne (x := bestN (yn Y) s b) (y := kindN (yn Y) s b) (tgt := 21) hC dX5_tollOf_14 (by decide) (fun c14 => ?_) (fun c14 => ?_)
  · skip
    refine v_iload_n hC dX5_tollOf_21 0 rfl ?_
    refine v_aload_n hC dX5_tollOf_22 1 rfl ?_
    refine v_iload_n hC dX5_tollOf_23 2 rfl ?_
    refine v_iload_n hC dX5_tollOf_24 3 rfl ?_
    refine v_callVr (As := [.int (nI s), .int (nI b)]) (rest := [.int (bestN (yn Y) s b)]) hC 2 204 (c_X5_manyIn Λ X Y (s := s) (b := b) (by omega) (by omega)) (nR_of (by decide)) (cc_204 Λ X Y) rfl gX5_tollOf_X5_manyIn rfl rfl rfl hd_X5_manyIn ⟨by decide, by decide⟩ rfl rfl (Nat.le_of_ble_eq_true rfl) dX5_tollOf_25 ?_
    refine v_aload_n hC dX5_tollOf_28 1 rfl ?_
    refine v_iload_n hC dX5_tollOf_29 2 rfl ?_
    refine v_iload_n hC dX5_tollOf_30 3 rfl ?_
    refine v_callVr (As := [.int (nI s), .int (nI b)]) (rest := [.int (nI (manyN (yn Y) s b)), .int (bestN (yn Y) s b)]) hC 2 204 (c_X5_runsIn Λ X Y (s := s) (b := b) (by omega) (by omega)) (nR_of (by decide)) (cc_204 Λ X Y) rfl gX5_tollOf_X5_runsIn rfl rfl rfl hd_X5_runsIn ⟨by decide, by decide⟩ rfl rfl (Nat.le_of_ble_eq_true rfl) dX5_tollOf_31 ?_
    refine v_callSr (As := [.int (bestN (yn Y) s b), .int (nI (manyN (yn Y) s b)), .int (nI (runsN (yn Y) s b))]) (rest := []) hC 3 (c_X5_units Λ X Y (k := bestN (yn Y) s b) (m := nI (manyN (yn Y) s b)) (r := nI (runsN (yn Y) s b))) gX5_tollOf_X5_units rfl rfl rfl hd_X5_units ⟨by decide, by decide⟩ rfl rfl (Nat.le_of_ble_eq_true rfl) dX5_tollOf_34 ?_
    exact v_iret hC hR (congrArg (fun z : Int32 => some (Value.int z)) (by simp [tollN, *])) rfl dX5_tollOf_37
  · skip
    refine v_iconst (v := 0) hC dX5_tollOf_17 (by decide) ?_
    refine v_goto (tgt := 37) hC dX5_tollOf_18 (by decide) ?_
    exact v_iret hC hR (congrArg (fun z : Int32 => some (Value.int z)) (by simp [tollN, *])) rfl dX5_tollOf_37

theorem hd_X5_becomes : yX5_becomes.cls = RX5 ∧ yX5_becomes.cls ≠ "java/lang/invoke/MethodHandle" ∧ yX5_becomes.cls ≠ "java/lang/invoke/VarHandle" ∧ (parseMethodDescriptor yX5_becomes.desc).map (fun d => d.parameters.length) = some 2 := by decide +kernel
set_option maxHeartbeats 4000000 in
set_option maxRecDepth 100000 in
theorem c_X5_becomes (Λ : Lk) (X : XS) (Y : YS) {s : Nat} {b : Nat} (hs : s < 6) (hb : b < 8) : Con Λ yX5_becomes wsX5_becomes { frames := 5, cells := 0, slots := 0, locals := 113 } [rf Λ 204, .int (nI s), .int (nI b)] (CC Λ X Y) none (CC Λ X (ynS Y (becomesN (yn Y) s b))) := by
  refine con_start (cc := cX5_becomes) (maxL := 4) (ret := none) (by decide) rfl (Nat.le_of_ble_eq_true rfl) ?_
  intro κ hC hR
  have hC : Ok Λ { frames := 5, cells := 0, slots := 0, locals := 113 } cX5_becomes wsX5_becomes RX5 4 κ := hC
  refine v_args (lv' := [(0, rf Λ 204), (1, .int (nI s)), (2, .int (nI b))]) rfl ?_
  refine v_aload_n hC dX5_becomes_0 0 rfl ?_
  refine v_iload_n hC dX5_becomes_1 1 rfl ?_
  refine v_iload_n hC dX5_becomes_2 2 rfl ?_
  refine v_callVr (As := [.int (nI s), .int (nI b)]) (rest := []) hC 2 204 (c_X5_tollOf Λ X Y (s := s) (b := b) (by omega) (by omega)) (nR_of (by decide)) (cc_204 Λ X Y) rfl gX5_becomes_X5_tollOf rfl rfl rfl hd_X5_tollOf ⟨by decide, by decide⟩ rfl rfl (Nat.le_of_ble_eq_true rfl) dX5_becomes_3 ?_
  refine v_istore_n (lv' := [(3, .int (tollN (yn Y) s b)), (0, rf Λ 204), (1, .int (nI s)), (2, .int (nI b))]) hC dX5_becomes_6 (by decide) rfl ?_
  refine v_aload_n hC dX5_becomes_7 1 rfl ?_
  refine v_iload_n hC dX5_becomes_8 2 rfl ?_
  refine v_iconst (v := 3) hC dX5_becomes_9 (by decide) ?_
  refine v_iload_n hC dX5_becomes_10 3 rfl ?_
  refine v_iadd (x := 3) (y := nI b) hC dX5_becomes_11 ?_
  refine v_topi (y := nI (3 + b)) (nI_add 3 b) ?_
  refine v_aload_n hC dX5_becomes_12 1 rfl ?_
  refine v_iload_n hC dX5_becomes_13 2 rfl ?_
  refine v_iload_n hC dX5_becomes_14 3 rfl ?_
  refine v_callVr (As := [.int (nI s), .int (nI b)]) (rest := [.int (nI (3 + b)), .int (nI s), rf Λ 204]) hC 2 204 (c_X5_bestOf Λ X Y (s := s) (b := b) (by omega) (by omega)) (nR_of (by decide)) (cc_204 Λ X Y) rfl gX5_becomes_X5_bestOf rfl rfl rfl hd_X5_bestOf ⟨by decide, by decide⟩ rfl rfl (Nat.le_of_ble_eq_true rfl) dX5_becomes_15 ?_
  refine v_iconst (v := 1) hC dX5_becomes_18 (by decide) ?_
  refine v_iadd (x := bestN (yn Y) s b) (y := 1) hC dX5_becomes_19 ?_
  refine v_callVv (As := [.int (nI s), .int (nI (3 + b)), .int ((bestN (yn Y) s b) + 1)]) (rest := []) hC 3 204 (c_X5_lays Λ X Y (s := s) (w := 3 + b) (v := (bestN (yn Y) s b) + 1) (by omega) (by omega)) (nR_of (by decide)) (cc_204 Λ X Y) rfl gX5_becomes_X5_lays rfl rfl rfl hd_X5_lays ⟨by decide, by decide⟩ rfl rfl (Nat.le_of_ble_eq_true rfl) dX5_becomes_20 ?_
  refine v_aload_n hC dX5_becomes_23 1 rfl ?_
  refine v_iload_n hC dX5_becomes_24 2 rfl ?_
  refine v_iconst (v := 0) hC dX5_becomes_25 (by decide) ?_
  refine v_aload_n hC dX5_becomes_26 1 rfl ?_
  refine v_iload_n hC dX5_becomes_27 2 rfl ?_
  refine v_iconst (v := 0) hC dX5_becomes_28 (by decide) ?_
  refine v_callVr (As := [.int (nI s), .int 0]) (rest := [.int 0, .int (nI s), rf Λ 204]) hC 2 204 (c_X5_of Λ X (ynS Y (layN (yn Y) s (3 + b) ((bestN (yn Y) s b) + 1))) (s := s) (w := 0) (by omega) (by omega)) (nR_of (by decide)) (cc_204 Λ X (ynS Y (layN (yn Y) s (3 + b) ((bestN (yn Y) s b) + 1)))) rfl gX5_becomes_X5_of rfl rfl rfl hd_X5_of ⟨by decide, by decide⟩ rfl rfl (Nat.le_of_ble_eq_true rfl) dX5_becomes_29 ?_
  refine v_iload_n hC dX5_becomes_32 0 rfl ?_
  refine v_isub (x := ofN (layN (yn Y) s (3 + b) ((bestN (yn Y) s b) + 1)) s 0) (y := tollN (yn Y) s b) hC dX5_becomes_33 ?_
  refine v_callVv (As := [.int (nI s), .int 0, .int ((ofN (layN (yn Y) s (3 + b) ((bestN (yn Y) s b) + 1)) s 0) - (tollN (yn Y) s b))]) (rest := []) hC 3 204 (c_X5_lays Λ X (ynS Y (layN (yn Y) s (3 + b) ((bestN (yn Y) s b) + 1))) (s := s) (w := 0) (v := (ofN (layN (yn Y) s (3 + b) ((bestN (yn Y) s b) + 1)) s 0) - (tollN (yn Y) s b)) (by omega) (by omega)) (nR_of (by decide)) (cc_204 Λ X (ynS Y (layN (yn Y) s (3 + b) ((bestN (yn Y) s b) + 1)))) rfl gX5_becomes_X5_lays rfl rfl rfl hd_X5_lays ⟨by decide, by decide⟩ rfl rfl (Nat.le_of_ble_eq_true rfl) dX5_becomes_34 ?_
  refine v_aload_n hC dX5_becomes_37 1 rfl ?_
  refine v_iload_n hC dX5_becomes_38 2 rfl ?_
  refine v_iconst (v := 2) hC dX5_becomes_39 (by decide) ?_
  refine v_aload_n hC dX5_becomes_40 1 rfl ?_
  refine v_iload_n hC dX5_becomes_41 2 rfl ?_
  refine v_iconst (v := 2) hC dX5_becomes_42 (by decide) ?_
  refine v_callVr (As := [.int (nI s), .int 2]) (rest := [.int 2, .int (nI s), rf Λ 204]) hC 2 204 (c_X5_of Λ X (ynS (ynS Y (layN (yn Y) s (3 + b) ((bestN (yn Y) s b) + 1))) (layN (layN (yn Y) s (3 + b) ((bestN (yn Y) s b) + 1)) s 0 ((ofN (layN (yn Y) s (3 + b) ((bestN (yn Y) s b) + 1)) s 0) - (tollN (yn Y) s b)))) (s := s) (w := 2) (by omega) (by omega)) (nR_of (by decide)) (cc_204 Λ X (ynS (ynS Y (layN (yn Y) s (3 + b) ((bestN (yn Y) s b) + 1))) (layN (layN (yn Y) s (3 + b) ((bestN (yn Y) s b) + 1)) s 0 ((ofN (layN (yn Y) s (3 + b) ((bestN (yn Y) s b) + 1)) s 0) - (tollN (yn Y) s b))))) rfl gX5_becomes_X5_of rfl rfl rfl hd_X5_of ⟨by decide, by decide⟩ rfl rfl (Nat.le_of_ble_eq_true rfl) dX5_becomes_43 ?_
  refine v_iload_n hC dX5_becomes_46 0 rfl ?_
  refine v_iadd (x := ofN (layN (layN (yn Y) s (3 + b) ((bestN (yn Y) s b) + 1)) s 0 ((ofN (layN (yn Y) s (3 + b) ((bestN (yn Y) s b) + 1)) s 0) - (tollN (yn Y) s b))) s 2) (y := tollN (yn Y) s b) hC dX5_becomes_47 ?_
  refine v_callVv (As := [.int (nI s), .int 2, .int ((ofN (layN (layN (yn Y) s (3 + b) ((bestN (yn Y) s b) + 1)) s 0 ((ofN (layN (yn Y) s (3 + b) ((bestN (yn Y) s b) + 1)) s 0) - (tollN (yn Y) s b))) s 2) + (tollN (yn Y) s b))]) (rest := []) hC 3 204 (c_X5_lays Λ X (ynS (ynS Y (layN (yn Y) s (3 + b) ((bestN (yn Y) s b) + 1))) (layN (layN (yn Y) s (3 + b) ((bestN (yn Y) s b) + 1)) s 0 ((ofN (layN (yn Y) s (3 + b) ((bestN (yn Y) s b) + 1)) s 0) - (tollN (yn Y) s b)))) (s := s) (w := 2) (v := (ofN (layN (layN (yn Y) s (3 + b) ((bestN (yn Y) s b) + 1)) s 0 ((ofN (layN (yn Y) s (3 + b) ((bestN (yn Y) s b) + 1)) s 0) - (tollN (yn Y) s b))) s 2) + (tollN (yn Y) s b)) (by omega) (by omega)) (nR_of (by decide)) (cc_204 Λ X (ynS (ynS Y (layN (yn Y) s (3 + b) ((bestN (yn Y) s b) + 1))) (layN (layN (yn Y) s (3 + b) ((bestN (yn Y) s b) + 1)) s 0 ((ofN (layN (yn Y) s (3 + b) ((bestN (yn Y) s b) + 1)) s 0) - (tollN (yn Y) s b))))) rfl gX5_becomes_X5_lays rfl rfl rfl hd_X5_lays ⟨by decide, by decide⟩ rfl rfl (Nat.le_of_ble_eq_true rfl) dX5_becomes_48 ?_
  exact v_vret hC hR rfl rfl dX5_becomes_51

theorem hd_X5_puts : yX5_puts.cls = RX5 ∧ yX5_puts.cls ≠ "java/lang/invoke/MethodHandle" ∧ yX5_puts.cls ≠ "java/lang/invoke/VarHandle" ∧ (parseMethodDescriptor yX5_puts.desc).map (fun d => d.parameters.length) = some 3 := by decide +kernel
set_option maxHeartbeats 4000000 in
set_option maxRecDepth 100000 in
theorem c_X5_puts (Λ : Lk) (X : XS) (Y : YS) {s : Nat} {n : Nat} {is : Bool} (hs : s < 6) (hn : n < 2048) : Con Λ yX5_puts wsX5_puts { frames := 1, cells := 0, slots := 0, locals := 23 } [rf Λ 204, .int (nI s), .int (nI n), .int (bI is)] (CC Λ X Y) none (CC Λ X (ynS Y (putN (yn Y) s n is))) := by
  refine con_start (cc := cX5_puts) (maxL := 6) (ret := none) (by decide) rfl (Nat.le_of_ble_eq_true rfl) ?_
  intro κ hC hR
  have hC : Ok Λ { frames := 1, cells := 0, slots := 0, locals := 23 } cX5_puts wsX5_puts RX5 6 κ := hC
  refine v_args (lv' := [(0, rf Λ 204), (1, .int (nI s)), (2, .int (nI n)), (3, .int (bI is))]) rfl ?_
  refine v_iconst (v := 1) hC dX5_puts_0 (by decide) ?_
  refine v_iload_n hC dX5_puts_1 2 rfl ?_
  refine v_bipush (v := 32) hC dX5_puts_2 (by decide) ?_
  refine v_irem (x := nI n) (y := 32) hC dX5_puts_4 (by decide) ?_
  refine v_topi (y := nI (n % 32)) (pk_rem (a := n) (d := 32) (by omega) (by decide) (by decide)) ?_
  refine v_ishl (x := 1) (y := nI (n % 32)) hC dX5_puts_5 ?_
  refine v_istore (lv' := [(4, .int (1 <<< ((nI (n % 32)) &&& 31))), (0, rf Λ 204), (1, .int (nI s)), (2, .int (nI n)), (3, .int (bI is))]) hC dX5_puts_6 (by decide) rfl ?_
  refine v_aload_n hC dX5_puts_8 1 rfl ?_
  refine v_iload_n hC dX5_puts_9 2 rfl ?_
  refine v_bipush (v := 11) hC dX5_puts_10 (by decide) ?_
  refine v_iload_n hC dX5_puts_12 3 rfl ?_
  refine v_bipush (v := 32) hC dX5_puts_13 (by decide) ?_
  refine v_idiv (x := nI n) (y := 32) hC dX5_puts_15 (by decide) ?_
  refine v_topi (y := nI (n / 32)) (pk_div (a := n) (d := 32) (by omega) (by decide) (by decide)) ?_
  refine v_iadd (x := 11) (y := nI (n / 32)) hC dX5_puts_16 ?_
  refine v_topi (y := nI (11 + (n / 32))) (nI_add 11 (n / 32)) ?_
  refine v_callVr (As := [.int (nI s), .int (nI (11 + (n / 32)))]) (rest := []) hC 2 204 (c_X5_of Λ X Y (s := s) (w := 11 + (n / 32)) (by omega) (by omega)) (nR_of (by decide)) (cc_204 Λ X Y) rfl gX5_puts_X5_of rfl rfl rfl hd_X5_of ⟨by decide, by decide⟩ rfl rfl (Nat.le_of_ble_eq_true rfl) dX5_puts_17 ?_
  refine v_istore (lv' := [(5, .int (ofN (yn Y) s (11 + (n / 32)))), (4, .int (1 <<< ((nI (n % 32)) &&& 31))), (0, rf Λ 204), (1, .int (nI s)), (2, .int (nI n)), (3, .int (bI is))]) hC dX5_puts_20 (by decide) rfl ?_
  refine v_aload_n hC dX5_puts_22 2 rfl ?_
  refine v_iload_n hC dX5_puts_23 3 rfl ?_
  refine v_bipush (v := 11) hC dX5_puts_24 (by decide) ?_
  refine v_iload_n hC dX5_puts_26 4 rfl ?_
  refine v_bipush (v := 32) hC dX5_puts_27 (by decide) ?_
  refine v_idiv (x := nI n) (y := 32) hC dX5_puts_29 (by decide) ?_
  refine v_topi (y := nI (n / 32)) (pk_div (a := n) (d := 32) (by omega) (by decide) (by decide)) ?_
  refine v_iadd (x := 11) (y := nI (n / 32)) hC dX5_puts_30 ?_
  refine v_topi (y := nI (11 + (n / 32))) (nI_add 11 (n / 32)) ?_
  refine v_iload_n hC dX5_puts_31 5 rfl ?_
  refine v_beq (b := is) (tgt := 43) hC dX5_puts_32 (by decide) (fun c32 => ?_) (fun c32 => ?_)
  · skip
    refine v_iload hC dX5_puts_43 0 rfl ?_
    refine v_iload hC dX5_puts_45 1 rfl ?_
    refine v_iconst (v := (-1)) hC dX5_puts_47 (by decide) ?_
    refine v_ixor (x := 1 <<< ((nI (n % 32)) &&& 31)) (y := (-1)) hC dX5_puts_48 ?_
    refine v_iand (x := ofN (yn Y) s (11 + (n / 32))) (y := (1 <<< ((nI (n % 32)) &&& 31)) ^^^ (-1)) hC dX5_puts_49 ?_
    refine v_callVv (As := [.int (nI s), .int (nI (11 + (n / 32))), .int ((ofN (yn Y) s (11 + (n / 32))) &&& ((1 <<< ((nI (n % 32)) &&& 31)) ^^^ (-1)))]) (rest := []) hC 3 204 (c_X5_lays Λ X Y (s := s) (w := 11 + (n / 32)) (v := (ofN (yn Y) s (11 + (n / 32))) &&& ((1 <<< ((nI (n % 32)) &&& 31)) ^^^ (-1))) (by omega) (by omega)) (nR_of (by decide)) (cc_204 Λ X Y) rfl gX5_puts_X5_lays rfl rfl rfl hd_X5_lays ⟨by decide, by decide⟩ rfl rfl (Nat.le_of_ble_eq_true rfl) dX5_puts_50 ?_
    exact v_vret hC hR rfl (congrArg (fun z => CC Λ X (ynS Y z)) (by simp [putN, bitI, c32])) dX5_puts_53
  · skip
    refine v_iload hC dX5_puts_35 0 rfl ?_
    refine v_iload hC dX5_puts_37 1 rfl ?_
    refine v_ior (x := ofN (yn Y) s (11 + (n / 32))) (y := 1 <<< ((nI (n % 32)) &&& 31)) hC dX5_puts_39 ?_
    refine v_goto (tgt := 50) hC dX5_puts_40 (by decide) ?_
    refine v_callVv (As := [.int (nI s), .int (nI (11 + (n / 32))), .int ((ofN (yn Y) s (11 + (n / 32))) ||| (1 <<< ((nI (n % 32)) &&& 31)))]) (rest := []) hC 3 204 (c_X5_lays Λ X Y (s := s) (w := 11 + (n / 32)) (v := (ofN (yn Y) s (11 + (n / 32))) ||| (1 <<< ((nI (n % 32)) &&& 31))) (by omega) (by omega)) (nR_of (by decide)) (cc_204 Λ X Y) rfl gX5_puts_X5_lays rfl rfl rfl hd_X5_lays ⟨by decide, by decide⟩ rfl rfl (Nat.le_of_ble_eq_true rfl) dX5_puts_50 ?_
    exact v_vret hC hR rfl (congrArg (fun z => CC Λ X (ynS Y z)) (by simp [putN, bitI, c32])) dX5_puts_53
end
section
theorem zz_last : True := trivial
end
